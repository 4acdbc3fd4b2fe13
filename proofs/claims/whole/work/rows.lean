section
-- ===== PART A: goes FIRST, ahead of the names: the tables' words, and 'selects' of the private methods out of them =====
/-- a private method of a class that the tables say can be made, by its rows of tables_1 -/
def lw_okq (q : MethodName × Nat) : Prop := (q.1.cls ≠ "java/lang/invoke/MethodHandle" ∧ q.1.cls ≠ "java/lang/invoke/VarHandle") ∧ Cond.instantiable q.1.cls q.2 ∈ tables_1 ∧ Cond.privateMethod q.1 ∈ tables_1 ∧ Cond.instanceMethod q.1 ∈ tables_1
theorem lw_p0 : lw_okq (⟨"BasisMoves$Partitions", "measure", "(I)V"⟩, 8) := ⟨⟨by decide +kernel, by decide +kernel⟩, List.mem_of_getElem? (i := 18) (by decide +kernel), List.mem_of_getElem? (i := 24) (by decide +kernel), List.mem_of_getElem? (i := 25) (by decide +kernel)⟩
theorem lw_p1 : lw_okq (⟨"BasisMoves$Partitions", "partAt", "(II)I"⟩, 8) := ⟨⟨by decide +kernel, by decide +kernel⟩, List.mem_of_getElem? (i := 18) (by decide +kernel), List.mem_of_getElem? (i := 28) (by decide +kernel), List.mem_of_getElem? (i := 29) (by decide +kernel)⟩
theorem lw_p2 : lw_okq (⟨"BasisMoves$Partitions", "findConjugate", "(I)I"⟩, 8) := ⟨⟨by decide +kernel, by decide +kernel⟩, List.mem_of_getElem? (i := 18) (by decide +kernel), List.mem_of_getElem? (i := 43) (by decide +kernel), List.mem_of_getElem? (i := 44) (by decide +kernel)⟩
theorem lw_p3 : lw_okq (⟨"BasisMoves$Partitions", "numberOf", "(II)I"⟩, 8) := ⟨⟨by decide +kernel, by decide +kernel⟩, List.mem_of_getElem? (i := 18) (by decide +kernel), List.mem_of_getElem? (i := 47) (by decide +kernel), List.mem_of_getElem? (i := 48) (by decide +kernel)⟩
theorem lw_p4 : lw_okq (⟨"BasisMoves$Partitions", "fillColumn", "(I)V"⟩, 8) := ⟨⟨by decide +kernel, by decide +kernel⟩, List.mem_of_getElem? (i := 18) (by decide +kernel), List.mem_of_getElem? (i := 59) (by decide +kernel), List.mem_of_getElem? (i := 60) (by decide +kernel)⟩
theorem lw_p5 : lw_okq (⟨"BasisMoves$Partitions", "isRowStrip", "(II)Z"⟩, 8) := ⟨⟨by decide +kernel, by decide +kernel⟩, List.mem_of_getElem? (i := 18) (by decide +kernel), List.mem_of_getElem? (i := 63) (by decide +kernel), List.mem_of_getElem? (i := 64) (by decide +kernel)⟩
theorem lw_p6 : lw_okq (⟨"BasisMoves$Partitions", "kostkaOf", "(II)I"⟩, 8) := ⟨⟨by decide +kernel, by decide +kernel⟩, List.mem_of_getElem? (i := 18) (by decide +kernel), List.mem_of_getElem? (i := 67) (by decide +kernel), List.mem_of_getElem? (i := 68) (by decide +kernel)⟩
theorem lw_p7 : lw_okq (⟨"BasisMoves$Partitions", "rimSign", "(II)I"⟩, 8) := ⟨⟨by decide +kernel, by decide +kernel⟩, List.mem_of_getElem? (i := 18) (by decide +kernel), List.mem_of_getElem? (i := 71) (by decide +kernel), List.mem_of_getElem? (i := 72) (by decide +kernel)⟩
theorem lw_p8 : lw_okq (⟨"BasisMoves$Partitions", "characterOf", "(II)I"⟩, 8) := ⟨⟨by decide +kernel, by decide +kernel⟩, List.mem_of_getElem? (i := 18) (by decide +kernel), List.mem_of_getElem? (i := 78) (by decide +kernel), List.mem_of_getElem? (i := 79) (by decide +kernel)⟩
theorem lw_p9 : lw_okq (⟨"BasisMoves$Partitions", "isAbove", "(II)Z"⟩, 8) := ⟨⟨by decide +kernel, by decide +kernel⟩, List.mem_of_getElem? (i := 18) (by decide +kernel), List.mem_of_getElem? (i := 211) (by decide +kernel), List.mem_of_getElem? (i := 212) (by decide +kernel)⟩
theorem lw_p10 : lw_okq (⟨"BasisMoves$Bases", "toWeights", "(I[J[J)V"⟩, 3) := ⟨⟨by decide +kernel, by decide +kernel⟩, List.mem_of_getElem? (i := 118) (by decide +kernel), List.mem_of_getElem? (i := 232) (by decide +kernel), List.mem_of_getElem? (i := 233) (by decide +kernel)⟩
theorem lw_p11 : lw_okq (⟨"BasisMoves$Bases", "completesToTableaux", "([J[J)V"⟩, 3) := ⟨⟨by decide +kernel, by decide +kernel⟩, List.mem_of_getElem? (i := 118) (by decide +kernel), List.mem_of_getElem? (i := 239) (by decide +kernel), List.mem_of_getElem? (i := 240) (by decide +kernel)⟩
theorem lw_p12 : lw_okq (⟨"BasisMoves$Bases", "endFor", "(I)I"⟩, 3) := ⟨⟨by decide +kernel, by decide +kernel⟩, List.mem_of_getElem? (i := 118) (by decide +kernel), List.mem_of_getElem? (i := 243) (by decide +kernel), List.mem_of_getElem? (i := 244) (by decide +kernel)⟩
theorem lw_p13 : lw_okq (⟨"BasisMoves$Bases", "conjugate", "([J[J)V"⟩, 3) := ⟨⟨by decide +kernel, by decide +kernel⟩, List.mem_of_getElem? (i := 118) (by decide +kernel), List.mem_of_getElem? (i := 249) (by decide +kernel), List.mem_of_getElem? (i := 250) (by decide +kernel)⟩
theorem lw_p14 : lw_okq (⟨"BasisMoves$Bases", "powersToTableaux", "([J[J)V"⟩, 3) := ⟨⟨by decide +kernel, by decide +kernel⟩, List.mem_of_getElem? (i := 118) (by decide +kernel), List.mem_of_getElem? (i := 254) (by decide +kernel), List.mem_of_getElem? (i := 255) (by decide +kernel)⟩
theorem lw_p15 : lw_okq (⟨"BasisMoves$Bases", "startFor", "(I)I"⟩, 3) := ⟨⟨by decide +kernel, by decide +kernel⟩, List.mem_of_getElem? (i := 118) (by decide +kernel), List.mem_of_getElem? (i := 258) (by decide +kernel), List.mem_of_getElem? (i := 259) (by decide +kernel)⟩
def lw_privs_1 : List (MethodName × Nat) := [(⟨"BasisMoves$Partitions", "measure", "(I)V"⟩, 8), (⟨"BasisMoves$Partitions", "partAt", "(II)I"⟩, 8), (⟨"BasisMoves$Partitions", "findConjugate", "(I)I"⟩, 8), (⟨"BasisMoves$Partitions", "numberOf", "(II)I"⟩, 8), (⟨"BasisMoves$Partitions", "fillColumn", "(I)V"⟩, 8), (⟨"BasisMoves$Partitions", "isRowStrip", "(II)Z"⟩, 8), (⟨"BasisMoves$Partitions", "kostkaOf", "(II)I"⟩, 8), (⟨"BasisMoves$Partitions", "rimSign", "(II)I"⟩, 8), (⟨"BasisMoves$Partitions", "characterOf", "(II)I"⟩, 8), (⟨"BasisMoves$Partitions", "isAbove", "(II)Z"⟩, 8), (⟨"BasisMoves$Bases", "toWeights", "(I[J[J)V"⟩, 3), (⟨"BasisMoves$Bases", "completesToTableaux", "([J[J)V"⟩, 3), (⟨"BasisMoves$Bases", "endFor", "(I)I"⟩, 3), (⟨"BasisMoves$Bases", "conjugate", "([J[J)V"⟩, 3), (⟨"BasisMoves$Bases", "powersToTableaux", "([J[J)V"⟩, 3), (⟨"BasisMoves$Bases", "startFor", "(I)I"⟩, 3)]
theorem lw_r1 : ∀ q ∈ lw_privs_1, lw_okq q := List.forall_mem_cons.mpr ⟨lw_p0, List.forall_mem_cons.mpr ⟨lw_p1, List.forall_mem_cons.mpr ⟨lw_p2, List.forall_mem_cons.mpr ⟨lw_p3, List.forall_mem_cons.mpr ⟨lw_p4, List.forall_mem_cons.mpr ⟨lw_p5, List.forall_mem_cons.mpr ⟨lw_p6, List.forall_mem_cons.mpr ⟨lw_p7, List.forall_mem_cons.mpr ⟨lw_p8, List.forall_mem_cons.mpr ⟨lw_p9, List.forall_mem_cons.mpr ⟨lw_p10, List.forall_mem_cons.mpr ⟨lw_p11, List.forall_mem_cons.mpr ⟨lw_p12, List.forall_mem_cons.mpr ⟨lw_p13, List.forall_mem_cons.mpr ⟨lw_p14, List.forall_mem_cons.mpr ⟨lw_p15, fun _ h => absurd h List.not_mem_nil⟩⟩⟩⟩⟩⟩⟩⟩⟩⟩⟩⟩⟩⟩⟩⟩
theorem lw_p16 : lw_okq (⟨"BasisMoves$Bases", "tableauxToWeights", "([J[J)V"⟩, 3) := ⟨⟨by decide +kernel, by decide +kernel⟩, List.mem_of_getElem? (i := 118) (by decide +kernel), List.mem_of_getElem? (i := 264) (by decide +kernel), List.mem_of_getElem? (i := 265) (by decide +kernel)⟩
theorem lw_p17 : lw_okq (⟨"BasisMoves", "hold", "(I)I"⟩, 9) := ⟨⟨by decide +kernel, by decide +kernel⟩, List.mem_of_getElem? (i := 10) (by decide +kernel), List.mem_of_getElem? (i := 268) (by decide +kernel), List.mem_of_getElem? (i := 269) (by decide +kernel)⟩
theorem lw_p18 : lw_okq (⟨"BasisMoves", "degreeOf", "([J)I"⟩, 9) := ⟨⟨by decide +kernel, by decide +kernel⟩, List.mem_of_getElem? (i := 10) (by decide +kernel), List.mem_of_getElem? (i := 285) (by decide +kernel), List.mem_of_getElem? (i := 286) (by decide +kernel)⟩
theorem lw_p19 : lw_okq (⟨"BasisMoves$Bases", "fromWeights", "(I[J[J)V"⟩, 3) := ⟨⟨by decide +kernel, by decide +kernel⟩, List.mem_of_getElem? (i := 118) (by decide +kernel), List.mem_of_getElem? (i := 295) (by decide +kernel), List.mem_of_getElem? (i := 296) (by decide +kernel)⟩
theorem lw_p20 : lw_okq (⟨"BasisMoves$Bases", "weightsToTableaux", "([J[J)V"⟩, 3) := ⟨⟨by decide +kernel, by decide +kernel⟩, List.mem_of_getElem? (i := 118) (by decide +kernel), List.mem_of_getElem? (i := 299) (by decide +kernel), List.mem_of_getElem? (i := 300) (by decide +kernel)⟩
theorem lw_p21 : lw_okq (⟨"BasisMoves$Bases", "tableauxToCompletes", "([J[J)V"⟩, 3) := ⟨⟨by decide +kernel, by decide +kernel⟩, List.mem_of_getElem? (i := 118) (by decide +kernel), List.mem_of_getElem? (i := 303) (by decide +kernel), List.mem_of_getElem? (i := 304) (by decide +kernel)⟩
theorem lw_p22 : lw_okq (⟨"BasisMoves$Bases", "tableauxToPowers", "([J[J)V"⟩, 3) := ⟨⟨by decide +kernel, by decide +kernel⟩, List.mem_of_getElem? (i := 118) (by decide +kernel), List.mem_of_getElem? (i := 307) (by decide +kernel), List.mem_of_getElem? (i := 308) (by decide +kernel)⟩
theorem lw_p23 : lw_okq (⟨"BasisMoves$Work", "valueAt", "([JJJJ)J"⟩, 4) := ⟨⟨by decide +kernel, by decide +kernel⟩, List.mem_of_getElem? (i := 135) (by decide +kernel), List.mem_of_getElem? (i := 327) (by decide +kernel), List.mem_of_getElem? (i := 328) (by decide +kernel)⟩
theorem lw_p24 : lw_okq (⟨"BasisMoves", "readPowers", "(II)V"⟩, 9) := ⟨⟨by decide +kernel, by decide +kernel⟩, List.mem_of_getElem? (i := 10) (by decide +kernel), List.mem_of_getElem? (i := 348) (by decide +kernel), List.mem_of_getElem? (i := 349) (by decide +kernel)⟩
theorem lw_p25 : lw_okq (⟨"BasisMoves$Work", "multiply", "([J[J[J)V"⟩, 4) := ⟨⟨by decide +kernel, by decide +kernel⟩, List.mem_of_getElem? (i := 135) (by decide +kernel), List.mem_of_getElem? (i := 352) (by decide +kernel), List.mem_of_getElem? (i := 353) (by decide +kernel)⟩
theorem lw_p26 : lw_okq (⟨"BasisMoves$Work", "addJoined", "(IJ[J[J)V"⟩, 4) := ⟨⟨by decide +kernel, by decide +kernel⟩, List.mem_of_getElem? (i := 135) (by decide +kernel), List.mem_of_getElem? (i := 357) (by decide +kernel), List.mem_of_getElem? (i := 358) (by decide +kernel)⟩
theorem lw_p27 : lw_okq (⟨"BasisMoves$Partitions", "joined", "(II)I"⟩, 8) := ⟨⟨by decide +kernel, by decide +kernel⟩, List.mem_of_getElem? (i := 18) (by decide +kernel), List.mem_of_getElem? (i := 362) (by decide +kernel), List.mem_of_getElem? (i := 363) (by decide +kernel)⟩
theorem lw_p28 : lw_okq (⟨"BasisMoves", "holdPowers", "(I)I"⟩, 9) := ⟨⟨by decide +kernel, by decide +kernel⟩, List.mem_of_getElem? (i := 10) (by decide +kernel), List.mem_of_getElem? (i := 370) (by decide +kernel), List.mem_of_getElem? (i := 371) (by decide +kernel)⟩
theorem lw_p29 : lw_okq (⟨"BasisMoves$Work", "stripOff", "([J[J[J)V"⟩, 4) := ⟨⟨by decide +kernel, by decide +kernel⟩, List.mem_of_getElem? (i := 135) (by decide +kernel), List.mem_of_getElem? (i := 383) (by decide +kernel), List.mem_of_getElem? (i := 384) (by decide +kernel)⟩
theorem lw_p30 : lw_okq (⟨"BasisMoves$Work", "scalarWithProduct", "(I[J[J)J"⟩, 4) := ⟨⟨by decide +kernel, by decide +kernel⟩, List.mem_of_getElem? (i := 135) (by decide +kernel), List.mem_of_getElem? (i := 387) (by decide +kernel), List.mem_of_getElem? (i := 388) (by decide +kernel)⟩
theorem lw_p31 : lw_okq (⟨"BasisMoves$Work", "scalarWithPower", "(I[J)J"⟩, 4) := ⟨⟨by decide +kernel, by decide +kernel⟩, List.mem_of_getElem? (i := 135) (by decide +kernel), List.mem_of_getElem? (i := 391) (by decide +kernel), List.mem_of_getElem? (i := 392) (by decide +kernel)⟩
def lw_privs_2 : List (MethodName × Nat) := [(⟨"BasisMoves$Bases", "tableauxToWeights", "([J[J)V"⟩, 3), (⟨"BasisMoves", "hold", "(I)I"⟩, 9), (⟨"BasisMoves", "degreeOf", "([J)I"⟩, 9), (⟨"BasisMoves$Bases", "fromWeights", "(I[J[J)V"⟩, 3), (⟨"BasisMoves$Bases", "weightsToTableaux", "([J[J)V"⟩, 3), (⟨"BasisMoves$Bases", "tableauxToCompletes", "([J[J)V"⟩, 3), (⟨"BasisMoves$Bases", "tableauxToPowers", "([J[J)V"⟩, 3), (⟨"BasisMoves$Work", "valueAt", "([JJJJ)J"⟩, 4), (⟨"BasisMoves", "readPowers", "(II)V"⟩, 9), (⟨"BasisMoves$Work", "multiply", "([J[J[J)V"⟩, 4), (⟨"BasisMoves$Work", "addJoined", "(IJ[J[J)V"⟩, 4), (⟨"BasisMoves$Partitions", "joined", "(II)I"⟩, 8), (⟨"BasisMoves", "holdPowers", "(I)I"⟩, 9), (⟨"BasisMoves$Work", "stripOff", "([J[J[J)V"⟩, 4), (⟨"BasisMoves$Work", "scalarWithProduct", "(I[J[J)J"⟩, 4), (⟨"BasisMoves$Work", "scalarWithPower", "(I[J)J"⟩, 4)]
theorem lw_r2 : ∀ q ∈ lw_privs_2, lw_okq q := List.forall_mem_cons.mpr ⟨lw_p16, List.forall_mem_cons.mpr ⟨lw_p17, List.forall_mem_cons.mpr ⟨lw_p18, List.forall_mem_cons.mpr ⟨lw_p19, List.forall_mem_cons.mpr ⟨lw_p20, List.forall_mem_cons.mpr ⟨lw_p21, List.forall_mem_cons.mpr ⟨lw_p22, List.forall_mem_cons.mpr ⟨lw_p23, List.forall_mem_cons.mpr ⟨lw_p24, List.forall_mem_cons.mpr ⟨lw_p25, List.forall_mem_cons.mpr ⟨lw_p26, List.forall_mem_cons.mpr ⟨lw_p27, List.forall_mem_cons.mpr ⟨lw_p28, List.forall_mem_cons.mpr ⟨lw_p29, List.forall_mem_cons.mpr ⟨lw_p30, List.forall_mem_cons.mpr ⟨lw_p31, fun _ h => absurd h List.not_mem_nil⟩⟩⟩⟩⟩⟩⟩⟩⟩⟩⟩⟩⟩⟩⟩⟩
theorem lw_p32 : lw_okq (⟨"BasisMoves$Work", "meetWith", "([J[J[J)V"⟩, 4) := ⟨⟨by decide +kernel, by decide +kernel⟩, List.mem_of_getElem? (i := 135) (by decide +kernel), List.mem_of_getElem? (i := 399) (by decide +kernel), List.mem_of_getElem? (i := 400) (by decide +kernel)⟩
theorem lw_p33 : lw_okq (⟨"BasisMoves$Work", "plugWith", "([J[J[J)V"⟩, 4) := ⟨⟨by decide +kernel, by decide +kernel⟩, List.mem_of_getElem? (i := 135) (by decide +kernel), List.mem_of_getElem? (i := 407) (by decide +kernel), List.mem_of_getElem? (i := 408) (by decide +kernel)⟩
theorem lw_p34 : lw_okq (⟨"BasisMoves$Work", "stretch", "([JI[J)V"⟩, 4) := ⟨⟨by decide +kernel, by decide +kernel⟩, List.mem_of_getElem? (i := 135) (by decide +kernel), List.mem_of_getElem? (i := 411) (by decide +kernel), List.mem_of_getElem? (i := 412) (by decide +kernel)⟩
theorem lw_p35 : lw_okq (⟨"BasisMoves$Partitions", "multiplied", "(II)I"⟩, 8) := ⟨⟨by decide +kernel, by decide +kernel⟩, List.mem_of_getElem? (i := 18) (by decide +kernel), List.mem_of_getElem? (i := 415) (by decide +kernel), List.mem_of_getElem? (i := 416) (by decide +kernel)⟩
theorem lw_p36 : lw_okq (⟨"BasisMoves$Work", "plugPower", "(I)V"⟩, 4) := ⟨⟨by decide +kernel, by decide +kernel⟩, List.mem_of_getElem? (i := 135) (by decide +kernel), List.mem_of_getElem? (i := 419) (by decide +kernel), List.mem_of_getElem? (i := 420) (by decide +kernel)⟩
theorem lw_p37 : lw_okq (⟨"BasisMoves", "filledSlots", "()I"⟩, 9) := ⟨⟨by decide +kernel, by decide +kernel⟩, List.mem_of_getElem? (i := 10) (by decide +kernel), List.mem_of_getElem? (i := 438) (by decide +kernel), List.mem_of_getElem? (i := 439) (by decide +kernel)⟩
theorem lw_p38 : lw_okq (⟨"BasisMovesModel", "layPartition", "(III)V"⟩, 19) := ⟨⟨by decide +kernel, by decide +kernel⟩, List.mem_of_getElem? (i := 443) (by decide +kernel), List.mem_of_getElem? (i := 453) (by decide +kernel), List.mem_of_getElem? (i := 454) (by decide +kernel)⟩
theorem lw_p39 : lw_okq (⟨"BasisMovesModel", "layProduct", "(II)V"⟩, 19) := ⟨⟨by decide +kernel, by decide +kernel⟩, List.mem_of_getElem? (i := 443) (by decide +kernel), List.mem_of_getElem? (i := 466) (by decide +kernel), List.mem_of_getElem? (i := 467) (by decide +kernel)⟩
theorem lw_p40 : lw_okq (⟨"BasisMovesModel", "lengthOf", "(I)I"⟩, 19) := ⟨⟨by decide +kernel, by decide +kernel⟩, List.mem_of_getElem? (i := 443) (by decide +kernel), List.mem_of_getElem? (i := 470) (by decide +kernel), List.mem_of_getElem? (i := 471) (by decide +kernel)⟩
theorem lw_p41 : lw_okq (⟨"BasisMovesModel", "partOf", "(II)I"⟩, 19) := ⟨⟨by decide +kernel, by decide +kernel⟩, List.mem_of_getElem? (i := 443) (by decide +kernel), List.mem_of_getElem? (i := 474) (by decide +kernel), List.mem_of_getElem? (i := 475) (by decide +kernel)⟩
theorem lw_p42 : lw_okq (⟨"BasisMovesModel", "multiply", "([JI[JI[JI)V"⟩, 19) := ⟨⟨by decide +kernel, by decide +kernel⟩, List.mem_of_getElem? (i := 443) (by decide +kernel), List.mem_of_getElem? (i := 478) (by decide +kernel), List.mem_of_getElem? (i := 479) (by decide +kernel)⟩
theorem lw_p43 : lw_okq (⟨"BasisMovesModel", "conjugate", "(I)I"⟩, 19) := ⟨⟨by decide +kernel, by decide +kernel⟩, List.mem_of_getElem? (i := 443) (by decide +kernel), List.mem_of_getElem? (i := 554) (by decide +kernel), List.mem_of_getElem? (i := 555) (by decide +kernel)⟩
theorem lw_p44 : lw_okq (⟨"BasisMovesModel", "z", "(I)I"⟩, 19) := ⟨⟨by decide +kernel, by decide +kernel⟩, List.mem_of_getElem? (i := 443) (by decide +kernel), List.mem_of_getElem? (i := 558) (by decide +kernel), List.mem_of_getElem? (i := 559) (by decide +kernel)⟩
theorem lw_p45 : lw_okq (⟨"BasisMovesModel", "alike", "(I)I"⟩, 19) := ⟨⟨by decide +kernel, by decide +kernel⟩, List.mem_of_getElem? (i := 443) (by decide +kernel), List.mem_of_getElem? (i := 562) (by decide +kernel), List.mem_of_getElem? (i := 563) (by decide +kernel)⟩
theorem lw_p46 : lw_okq (⟨"BasisMovesModel", "timesOf", "(II)I"⟩, 19) := ⟨⟨by decide +kernel, by decide +kernel⟩, List.mem_of_getElem? (i := 443) (by decide +kernel), List.mem_of_getElem? (i := 566) (by decide +kernel), List.mem_of_getElem? (i := 567) (by decide +kernel)⟩
theorem lw_p47 : lw_okq (⟨"BasisMovesModel", "fillings", "(II)I"⟩, 19) := ⟨⟨by decide +kernel, by decide +kernel⟩, List.mem_of_getElem? (i := 443) (by decide +kernel), List.mem_of_getElem? (i := 570) (by decide +kernel), List.mem_of_getElem? (i := 571) (by decide +kernel)⟩
def lw_privs_3 : List (MethodName × Nat) := [(⟨"BasisMoves$Work", "meetWith", "([J[J[J)V"⟩, 4), (⟨"BasisMoves$Work", "plugWith", "([J[J[J)V"⟩, 4), (⟨"BasisMoves$Work", "stretch", "([JI[J)V"⟩, 4), (⟨"BasisMoves$Partitions", "multiplied", "(II)I"⟩, 8), (⟨"BasisMoves$Work", "plugPower", "(I)V"⟩, 4), (⟨"BasisMoves", "filledSlots", "()I"⟩, 9), (⟨"BasisMovesModel", "layPartition", "(III)V"⟩, 19), (⟨"BasisMovesModel", "layProduct", "(II)V"⟩, 19), (⟨"BasisMovesModel", "lengthOf", "(I)I"⟩, 19), (⟨"BasisMovesModel", "partOf", "(II)I"⟩, 19), (⟨"BasisMovesModel", "multiply", "([JI[JI[JI)V"⟩, 19), (⟨"BasisMovesModel", "conjugate", "(I)I"⟩, 19), (⟨"BasisMovesModel", "z", "(I)I"⟩, 19), (⟨"BasisMovesModel", "alike", "(I)I"⟩, 19), (⟨"BasisMovesModel", "timesOf", "(II)I"⟩, 19), (⟨"BasisMovesModel", "fillings", "(II)I"⟩, 19)]
theorem lw_r3 : ∀ q ∈ lw_privs_3, lw_okq q := List.forall_mem_cons.mpr ⟨lw_p32, List.forall_mem_cons.mpr ⟨lw_p33, List.forall_mem_cons.mpr ⟨lw_p34, List.forall_mem_cons.mpr ⟨lw_p35, List.forall_mem_cons.mpr ⟨lw_p36, List.forall_mem_cons.mpr ⟨lw_p37, List.forall_mem_cons.mpr ⟨lw_p38, List.forall_mem_cons.mpr ⟨lw_p39, List.forall_mem_cons.mpr ⟨lw_p40, List.forall_mem_cons.mpr ⟨lw_p41, List.forall_mem_cons.mpr ⟨lw_p42, List.forall_mem_cons.mpr ⟨lw_p43, List.forall_mem_cons.mpr ⟨lw_p44, List.forall_mem_cons.mpr ⟨lw_p45, List.forall_mem_cons.mpr ⟨lw_p46, List.forall_mem_cons.mpr ⟨lw_p47, fun _ h => absurd h List.not_mem_nil⟩⟩⟩⟩⟩⟩⟩⟩⟩⟩⟩⟩⟩⟩⟩⟩
theorem lw_p48 : lw_okq (⟨"BasisMovesModel", "isFilled", "(IIII)Z"⟩, 19) := ⟨⟨by decide +kernel, by decide +kernel⟩, List.mem_of_getElem? (i := 443) (by decide +kernel), List.mem_of_getElem? (i := 574) (by decide +kernel), List.mem_of_getElem? (i := 575) (by decide +kernel)⟩
theorem lw_p49 : lw_okq (⟨"BasisMovesModel", "layTableaux", "()V"⟩, 19) := ⟨⟨by decide +kernel, by decide +kernel⟩, List.mem_of_getElem? (i := 443) (by decide +kernel), List.mem_of_getElem? (i := 590) (by decide +kernel), List.mem_of_getElem? (i := 591) (by decide +kernel)⟩
theorem lw_p50 : lw_okq (⟨"BasisMovesModel", "scalarOf", "([JI[JI)J"⟩, 19) := ⟨⟨by decide +kernel, by decide +kernel⟩, List.mem_of_getElem? (i := 443) (by decide +kernel), List.mem_of_getElem? (i := 594) (by decide +kernel), List.mem_of_getElem? (i := 595) (by decide +kernel)⟩
theorem lw_p51 : lw_okq (⟨"BasisMovesModel", "layFound", "([JII)V"⟩, 19) := ⟨⟨by decide +kernel, by decide +kernel⟩, List.mem_of_getElem? (i := 443) (by decide +kernel), List.mem_of_getElem? (i := 598) (by decide +kernel), List.mem_of_getElem? (i := 599) (by decide +kernel)⟩
theorem lw_p52 : lw_okq (⟨"BasisMovesModel", "takeOff", "(IIJ)V"⟩, 19) := ⟨⟨by decide +kernel, by decide +kernel⟩, List.mem_of_getElem? (i := 443) (by decide +kernel), List.mem_of_getElem? (i := 603) (by decide +kernel), List.mem_of_getElem? (i := 604) (by decide +kernel)⟩
theorem lw_p53 : lw_okq (⟨"BasisMovesModel", "layComplete", "()V"⟩, 19) := ⟨⟨by decide +kernel, by decide +kernel⟩, List.mem_of_getElem? (i := 443) (by decide +kernel), List.mem_of_getElem? (i := 607) (by decide +kernel), List.mem_of_getElem? (i := 608) (by decide +kernel)⟩
theorem lw_p54 : lw_okq (⟨"BasisMovesModel", "clearWork", "()V"⟩, 19) := ⟨⟨by decide +kernel, by decide +kernel⟩, List.mem_of_getElem? (i := 443) (by decide +kernel), List.mem_of_getElem? (i := 618) (by decide +kernel), List.mem_of_getElem? (i := 619) (by decide +kernel)⟩
theorem lw_p55 : lw_okq (⟨"BasisMovesModel", "addMember", "(IIJ)V"⟩, 19) := ⟨⟨by decide +kernel, by decide +kernel⟩, List.mem_of_getElem? (i := 443) (by decide +kernel), List.mem_of_getElem? (i := 622) (by decide +kernel), List.mem_of_getElem? (i := 623) (by decide +kernel)⟩
theorem lw_p56 : lw_okq (⟨"BasisMovesModel", "keep", "(I)I"⟩, 19) := ⟨⟨by decide +kernel, by decide +kernel⟩, List.mem_of_getElem? (i := 443) (by decide +kernel), List.mem_of_getElem? (i := 626) (by decide +kernel), List.mem_of_getElem? (i := 627) (by decide +kernel)⟩
theorem lw_p57 : lw_okq (⟨"BasisMovesModel", "degreeOf", "(I)I"⟩, 19) := ⟨⟨by decide +kernel, by decide +kernel⟩, List.mem_of_getElem? (i := 443) (by decide +kernel), List.mem_of_getElem? (i := 640) (by decide +kernel), List.mem_of_getElem? (i := 641) (by decide +kernel)⟩
theorem lw_p58 : lw_okq (⟨"BasisMovesModel", "layMet", "(I)V"⟩, 19) := ⟨⟨by decide +kernel, by decide +kernel⟩, List.mem_of_getElem? (i := 443) (by decide +kernel), List.mem_of_getElem? (i := 684) (by decide +kernel), List.mem_of_getElem? (i := 685) (by decide +kernel)⟩
theorem lw_p59 : lw_okq (⟨"BasisMovesModel", "isWithin", "(II)Z"⟩, 19) := ⟨⟨by decide +kernel, by decide +kernel⟩, List.mem_of_getElem? (i := 443) (by decide +kernel), List.mem_of_getElem? (i := 692) (by decide +kernel), List.mem_of_getElem? (i := 693) (by decide +kernel)⟩
theorem lw_p60 : lw_okq (⟨"BasisMovesModel", "layPlugged", "(II)V"⟩, 19) := ⟨⟨by decide +kernel, by decide +kernel⟩, List.mem_of_getElem? (i := 443) (by decide +kernel), List.mem_of_getElem? (i := 696) (by decide +kernel), List.mem_of_getElem? (i := 697) (by decide +kernel)⟩
theorem lw_p61 : lw_okq (⟨"BasisMovesModel", "layPower", "(II)V"⟩, 19) := ⟨⟨by decide +kernel, by decide +kernel⟩, List.mem_of_getElem? (i := 443) (by decide +kernel), List.mem_of_getElem? (i := 700) (by decide +kernel), List.mem_of_getElem? (i := 701) (by decide +kernel)⟩
theorem lw_p62 : lw_okq (⟨"BasisMovesModel", "ofDegree", "(IZ)I"⟩, 19) := ⟨⟨by decide +kernel, by decide +kernel⟩, List.mem_of_getElem? (i := 443) (by decide +kernel), List.mem_of_getElem? (i := 716) (by decide +kernel), List.mem_of_getElem? (i := 717) (by decide +kernel)⟩
def lw_privs_4 : List (MethodName × Nat) := [(⟨"BasisMovesModel", "isFilled", "(IIII)Z"⟩, 19), (⟨"BasisMovesModel", "layTableaux", "()V"⟩, 19), (⟨"BasisMovesModel", "scalarOf", "([JI[JI)J"⟩, 19), (⟨"BasisMovesModel", "layFound", "([JII)V"⟩, 19), (⟨"BasisMovesModel", "takeOff", "(IIJ)V"⟩, 19), (⟨"BasisMovesModel", "layComplete", "()V"⟩, 19), (⟨"BasisMovesModel", "clearWork", "()V"⟩, 19), (⟨"BasisMovesModel", "addMember", "(IIJ)V"⟩, 19), (⟨"BasisMovesModel", "keep", "(I)I"⟩, 19), (⟨"BasisMovesModel", "degreeOf", "(I)I"⟩, 19), (⟨"BasisMovesModel", "layMet", "(I)V"⟩, 19), (⟨"BasisMovesModel", "isWithin", "(II)Z"⟩, 19), (⟨"BasisMovesModel", "layPlugged", "(II)V"⟩, 19), (⟨"BasisMovesModel", "layPower", "(II)V"⟩, 19), (⟨"BasisMovesModel", "ofDegree", "(IZ)I"⟩, 19)]
theorem lw_r4 : ∀ q ∈ lw_privs_4, lw_okq q := List.forall_mem_cons.mpr ⟨lw_p48, List.forall_mem_cons.mpr ⟨lw_p49, List.forall_mem_cons.mpr ⟨lw_p50, List.forall_mem_cons.mpr ⟨lw_p51, List.forall_mem_cons.mpr ⟨lw_p52, List.forall_mem_cons.mpr ⟨lw_p53, List.forall_mem_cons.mpr ⟨lw_p54, List.forall_mem_cons.mpr ⟨lw_p55, List.forall_mem_cons.mpr ⟨lw_p56, List.forall_mem_cons.mpr ⟨lw_p57, List.forall_mem_cons.mpr ⟨lw_p58, List.forall_mem_cons.mpr ⟨lw_p59, List.forall_mem_cons.mpr ⟨lw_p60, List.forall_mem_cons.mpr ⟨lw_p61, List.forall_mem_cons.mpr ⟨lw_p62, fun _ h => absurd h List.not_mem_nil⟩⟩⟩⟩⟩⟩⟩⟩⟩⟩⟩⟩⟩⟩⟩
def lw_privs : List (MethodName × Nat) := lw_privs_1 ++ (lw_privs_2 ++ (lw_privs_3 ++ (lw_privs_4)))
def lw_tbl : List Cond := k2_sels lw_privs ++ tables_1
theorem lw_privs_ok : ∀ q ∈ lw_privs, lw_okq q := by
  show ∀ q ∈ lw_privs_1 ++ (lw_privs_2 ++ (lw_privs_3 ++ (lw_privs_4))), lw_okq q
  exact List.forall_mem_append.mpr ⟨lw_r1, List.forall_mem_append.mpr ⟨lw_r2, List.forall_mem_append.mpr ⟨lw_r3, lw_r4⟩⟩⟩
-- ===== end of PART A; then your names; then what follows =====
/-! ===== BEGIN words of one list among another's, by their places ===== -/
theorem goodIn_r {big : List Cond} (ws : List Cond) (ps : List Nat) (hp : ws = ps.filterMap (fun i => big[i]?)) (h : ws.all goodWord = true) : GoodIn big ws := by
  intro w hw
  have h1 := List.all_eq_true.mp h w hw
  rw [hp] at hw
  obtain ⟨i, -, hi⟩ := List.mem_filterMap.mp hw
  have hm : w ∈ big := by first | exact List.mem_of_getElem? hi | exact List.getElem?_mem hi
  exact ⟨hm, good_of_word h1⟩
theorem goodIn_app {big a b : List Cond} (ha : GoodIn big a) (hb : GoodIn big b) : GoodIn big (a ++ b) := fun w h => (List.mem_append.mp h).elim (ha w) (hb w)
theorem goodIn_ca {big a b : List Cond} {c : Cond} (ha : GoodIn big (c :: a)) (hb : GoodIn big b) : GoodIn big (c :: (a ++ b)) := fun w h => (List.mem_cons.mp h).elim (fun e => ha w (List.mem_cons.mpr (Or.inl e))) (fun h => (List.mem_append.mp h).elim (fun h => ha w (List.mem_cons.mpr (Or.inr h))) (hb w))
theorem goodIn_sub {big ws : List Cond} (hm : ∀ w ∈ ws, w ∈ big) (h : ws.all goodWord = true) : GoodIn big ws := fun w hw => ⟨hm w hw, good_of_word (List.all_eq_true.mp h w hw)⟩
/-! ===== END ===== -/

/-! ===== BEGIN printed: names, fields, word lists, decode rows ===== -/
def RX0 : String := "BasisMoves$Bases"
def TX0 : u_T := fun k => match k with
  | 0 => ("BasisMoves$Bases", "partitions", "LBasisMoves$Partitions;", true)
  | 1 => ("BasisMoves$Bases", "tableaux", "[J", true)
  | _ => ("BasisMoves$Bases", "turned", "[J", true)
def tyX0 : Nat → FieldType := fun k => match k with
  | 0 => .object "BasisMoves$Partitions"
  | 1 => .array .long
  | _ => .array .long
abbrev wsX00 : List Cond := u_ws RX0 TX0 3
theorem nmX0 : ∀ a, a < 3 → ∀ b, b < 3 → a ≠ b → (TX0 a).2.1 ≠ (TX0 b).2.1 := by decide +kernel
theorem tyX0_ok : ∀ k, k < 3 → parseFieldDescriptor (TX0 k).2.2.1 = some (tyX0 k) := by decide +kernel
abbrev cX0_init : ByteArray := prog_2_method_1_code
def yX0_init : MethodName := ⟨RX0, "<init>", "(LBasisMoves$Partitions;)V"⟩
abbrev cX0_fromWeights : ByteArray := prog_2_method_2_code
def yX0_fromWeights : MethodName := ⟨RX0, "fromWeights", "(I[J[J)V"⟩
abbrev cX0_toWeights : ByteArray := prog_2_method_3_code
def yX0_toWeights : MethodName := ⟨RX0, "toWeights", "(I[J[J)V"⟩
abbrev cX0_startFor : ByteArray := prog_2_method_4_code
def yX0_startFor : MethodName := ⟨RX0, "startFor", "(I)I"⟩
abbrev cX0_endFor : ByteArray := prog_2_method_5_code
def yX0_endFor : MethodName := ⟨RX0, "endFor", "(I)I"⟩
abbrev cX0_tableauxToWeights : ByteArray := prog_2_method_6_code
def yX0_tableauxToWeights : MethodName := ⟨RX0, "tableauxToWeights", "([J[J)V"⟩
abbrev cX0_weightsToTableaux : ByteArray := prog_2_method_7_code
def yX0_weightsToTableaux : MethodName := ⟨RX0, "weightsToTableaux", "([J[J)V"⟩
abbrev cX0_completesToTableaux : ByteArray := prog_2_method_8_code
def yX0_completesToTableaux : MethodName := ⟨RX0, "completesToTableaux", "([J[J)V"⟩
abbrev cX0_tableauxToCompletes : ByteArray := prog_2_method_9_code
def yX0_tableauxToCompletes : MethodName := ⟨RX0, "tableauxToCompletes", "([J[J)V"⟩
abbrev cX0_powersToTableaux : ByteArray := prog_2_method_10_code
def yX0_powersToTableaux : MethodName := ⟨RX0, "powersToTableaux", "([J[J)V"⟩
abbrev cX0_tableauxToPowers : ByteArray := prog_2_method_11_code
def yX0_tableauxToPowers : MethodName := ⟨RX0, "tableauxToPowers", "([J[J)V"⟩
abbrev cX0_conjugate : ByteArray := prog_2_method_12_code
def yX0_conjugate : MethodName := ⟨RX0, "conjugate", "([J[J)V"⟩
def RX1 : String := "BasisMoves$Partitions"
def TX1 : u_T := fun k => match k with
  | 0 => ("BasisMoves$Partitions", "degrees", "[I", true)
  | 1 => ("BasisMoves$Partitions", "lengths", "[I", true)
  | 2 => ("BasisMoves$Partitions", "marks", "[I", true)
  | 3 => ("BasisMoves$Partitions", "conjugates", "[I", true)
  | 4 => ("BasisMoves$Partitions", "zs", "[I", true)
  | 5 => ("BasisMoves$Partitions", "joins", "[I", true)
  | 6 => ("BasisMoves$Partitions", "kostkas", "[I", true)
  | _ => ("BasisMoves$Partitions", "characters", "[I", true)
def tyX1 : Nat → FieldType := fun k => match k with
  | 0 => .array .int
  | 1 => .array .int
  | 2 => .array .int
  | 3 => .array .int
  | 4 => .array .int
  | 5 => .array .int
  | 6 => .array .int
  | _ => .array .int
abbrev wsX10 : List Cond := u_ws RX1 TX1 8
theorem nmX1 : ∀ a, a < 8 → ∀ b, b < 8 → a ≠ b → (TX1 a).2.1 ≠ (TX1 b).2.1 := by decide +kernel
theorem tyX1_ok : ∀ k, k < 8 → parseFieldDescriptor (TX1 k).2.2.1 = some (tyX1 k) := by decide +kernel
abbrev cX1_init : ByteArray := prog_3_method_1_code
def yX1_init : MethodName := ⟨RX1, "<init>", "()V"⟩
abbrev cX1_startOf : ByteArray := prog_3_method_2_code
def yX1_startOf : MethodName := ⟨RX1, "startOf", "(I)I"⟩
abbrev cX1_endOf : ByteArray := prog_3_method_3_code
def yX1_endOf : MethodName := ⟨RX1, "endOf", "(I)I"⟩
abbrev cX1_isPlace : ByteArray := prog_3_method_4_code
def yX1_isPlace : MethodName := ⟨RX1, "isPlace", "(I)Z"⟩
abbrev cX1_partAt : ByteArray := prog_3_method_5_code
def yX1_partAt : MethodName := ⟨RX1, "partAt", "(II)I"⟩
abbrev cX1_markOf : ByteArray := prog_3_method_6_code
def yX1_markOf : MethodName := ⟨RX1, "markOf", "(I)I"⟩
abbrev cX1_numberOf : ByteArray := prog_3_method_7_code
def yX1_numberOf : MethodName := ⟨RX1, "numberOf", "(II)I"⟩
abbrev cX1_measure : ByteArray := prog_3_method_8_code
def yX1_measure : MethodName := ⟨RX1, "measure", "(I)V"⟩
abbrev cX1_findConjugate : ByteArray := prog_3_method_9_code
def yX1_findConjugate : MethodName := ⟨RX1, "findConjugate", "(I)I"⟩
abbrev cX1_joined : ByteArray := prog_3_method_10_code
def yX1_joined : MethodName := ⟨RX1, "joined", "(II)I"⟩
abbrev cX1_multiplied : ByteArray := prog_3_method_11_code
def yX1_multiplied : MethodName := ⟨RX1, "multiplied", "(II)I"⟩
abbrev cX1_kostkaOf : ByteArray := prog_3_method_12_code
def yX1_kostkaOf : MethodName := ⟨RX1, "kostkaOf", "(II)I"⟩
abbrev cX1_characterOf : ByteArray := prog_3_method_13_code
def yX1_characterOf : MethodName := ⟨RX1, "characterOf", "(II)I"⟩
abbrev cX1_isAbove : ByteArray := prog_3_method_14_code
def yX1_isAbove : MethodName := ⟨RX1, "isAbove", "(II)Z"⟩
abbrev cX1_fillColumn : ByteArray := prog_3_method_15_code
def yX1_fillColumn : MethodName := ⟨RX1, "fillColumn", "(I)V"⟩
abbrev cX1_isRowStrip : ByteArray := prog_3_method_16_code
def yX1_isRowStrip : MethodName := ⟨RX1, "isRowStrip", "(II)Z"⟩
abbrev cX1_rimSign : ByteArray := prog_3_method_17_code
def yX1_rimSign : MethodName := ⟨RX1, "rimSign", "(II)I"⟩
def RX2 : String := "BasisMoves$Work"
def TX2 : u_T := fun k => match k with
  | 0 => ("BasisMoves$Work", "partitions", "LBasisMoves$Partitions;", true)
  | 1 => ("BasisMoves$Work", "stretched", "[[J", true)
  | 2 => ("BasisMoves$Work", "product", "[J", true)
  | _ => ("BasisMoves$Work", "longer", "[J", true)
def tyX2 : Nat → FieldType := fun k => match k with
  | 0 => .object "BasisMoves$Partitions"
  | 1 => .array (.array .long)
  | 2 => .array .long
  | _ => .array .long
abbrev wsX20 : List Cond := u_ws RX2 TX2 4
theorem nmX2 : ∀ a, a < 4 → ∀ b, b < 4 → a ≠ b → (TX2 a).2.1 ≠ (TX2 b).2.1 := by decide +kernel
theorem tyX2_ok : ∀ k, k < 4 → parseFieldDescriptor (TX2 k).2.2.1 = some (tyX2 k) := by decide +kernel
abbrev cX2_init : ByteArray := prog_4_method_1_code
def yX2_init : MethodName := ⟨RX2, "<init>", "(LBasisMoves$Partitions;)V"⟩
abbrev cX2_scalarOf : ByteArray := prog_4_method_2_code
def yX2_scalarOf : MethodName := ⟨RX2, "scalarOf", "([J[J)J"⟩
abbrev cX2_multiply : ByteArray := prog_4_method_3_code
def yX2_multiply : MethodName := ⟨RX2, "multiply", "([J[J[J)V"⟩
abbrev cX2_addJoined : ByteArray := prog_4_method_4_code
def yX2_addJoined : MethodName := ⟨RX2, "addJoined", "(IJ[J[J)V"⟩
abbrev cX2_divideByCommon : ByteArray := prog_4_method_5_code
def yX2_divideByCommon : MethodName := ⟨RX2, "divideByCommon", "([J)V"⟩
abbrev cX2_scalarWithPower : ByteArray := prog_4_method_6_code
def yX2_scalarWithPower : MethodName := ⟨RX2, "scalarWithPower", "(I[J)J"⟩
abbrev cX2_stripOff : ByteArray := prog_4_method_7_code
def yX2_stripOff : MethodName := ⟨RX2, "stripOff", "([J[J[J)V"⟩
abbrev cX2_scalarWithProduct : ByteArray := prog_4_method_8_code
def yX2_scalarWithProduct : MethodName := ⟨RX2, "scalarWithProduct", "(I[J[J)J"⟩
abbrev cX2_meetWith : ByteArray := prog_4_method_9_code
def yX2_meetWith : MethodName := ⟨RX2, "meetWith", "([J[J[J)V"⟩
abbrev cX2_plugWith : ByteArray := prog_4_method_10_code
def yX2_plugWith : MethodName := ⟨RX2, "plugWith", "([J[J[J)V"⟩
abbrev cX2_plugPower : ByteArray := prog_4_method_11_code
def yX2_plugPower : MethodName := ⟨RX2, "plugPower", "(I)V"⟩
abbrev cX2_stretch : ByteArray := prog_4_method_12_code
def yX2_stretch : MethodName := ⟨RX2, "stretch", "([JI[J)V"⟩
abbrev cX2_valueAt : ByteArray := prog_4_method_13_code
def yX2_valueAt : MethodName := ⟨RX2, "valueAt", "([JJJJ)J"⟩
abbrev cX2_powerOf : ByteArray := prog_4_method_14_code
def yX2_powerOf : MethodName := ⟨RX2, "powerOf", "(JI)J"⟩
def RX3 : String := "BasisMoves"
def TX3 : u_T := fun k => match k with
  | 0 => ("BasisMoves", "partitions", "LBasisMoves$Partitions;", true)
  | 1 => ("BasisMoves", "bases", "LBasisMoves$Bases;", true)
  | 2 => ("BasisMoves", "work", "LBasisMoves$Work;", true)
  | 3 => ("BasisMoves", "held", "[[J", true)
  | 4 => ("BasisMoves", "kept", "[[J", true)
  | 5 => ("BasisMoves", "hasImage", "[Z", true)
  | 6 => ("BasisMoves", "left", "[J", true)
  | 7 => ("BasisMoves", "right", "[J", true)
  | _ => ("BasisMoves", "result", "[J", true)
def tyX3 : Nat → FieldType := fun k => match k with
  | 0 => .object "BasisMoves$Partitions"
  | 1 => .object "BasisMoves$Bases"
  | 2 => .object "BasisMoves$Work"
  | 3 => .array (.array .long)
  | 4 => .array (.array .long)
  | 5 => .array .boolean
  | 6 => .array .long
  | 7 => .array .long
  | _ => .array .long
abbrev wsX30 : List Cond := u_ws RX3 TX3 9
theorem nmX3 : ∀ a, a < 9 → ∀ b, b < 9 → a ≠ b → (TX3 a).2.1 ≠ (TX3 b).2.1 := by decide +kernel
theorem tyX3_ok : ∀ k, k < 9 → parseFieldDescriptor (TX3 k).2.2.1 = some (tyX3 k) := by decide +kernel
abbrev cX3_init : ByteArray := prog_1_method_1_code
def yX3_init : MethodName := ⟨RX3, "<init>", "()V"⟩
abbrev cX3_part : ByteArray := prog_1_method_2_code
def yX3_part : MethodName := ⟨RX3, "part", "(II)I"⟩
abbrev cX3_about : ByteArray := prog_1_method_3_code
def yX3_about : MethodName := ⟨RX3, "about", "(II)I"⟩
abbrev cX3_kostka : ByteArray := prog_1_method_4_code
def yX3_kostka : MethodName := ⟨RX3, "kostka", "(II)I"⟩
abbrev cX3_character : ByteArray := prog_1_method_5_code
def yX3_character : MethodName := ⟨RX3, "character", "(II)I"⟩
abbrev cX3_above : ByteArray := prog_1_method_6_code
def yX3_above : MethodName := ⟨RX3, "above", "(II)I"⟩
abbrev cX3_put : ByteArray := prog_1_method_7_code
def yX3_put : MethodName := ⟨RX3, "put", "(IIII)I"⟩
abbrev cX3_add : ByteArray := prog_1_method_8_code
def yX3_add : MethodName := ⟨RX3, "add", "(III)I"⟩
abbrev cX3_degree : ByteArray := prog_1_method_9_code
def yX3_degree : MethodName := ⟨RX3, "degree", "(I)I"⟩
abbrev cX3_coefficient : ByteArray := prog_1_method_10_code
def yX3_coefficient : MethodName := ⟨RX3, "coefficient", "(IIII)J"⟩
abbrev cX3_next : ByteArray := prog_1_method_11_code
def yX3_next : MethodName := ⟨RX3, "next", "(III)I"⟩
abbrev cX3_value : ByteArray := prog_1_method_12_code
def yX3_value : MethodName := ⟨RX3, "value", "(IIII)J"⟩
abbrev cX3_scalar : ByteArray := prog_1_method_13_code
def yX3_scalar : MethodName := ⟨RX3, "scalar", "(II)J"⟩
abbrev cX3_times : ByteArray := prog_1_method_14_code
def yX3_times : MethodName := ⟨RX3, "times", "(III)I"⟩
abbrev cX3_turn : ByteArray := prog_1_method_15_code
def yX3_turn : MethodName := ⟨RX3, "turn", "(II)I"⟩
abbrev cX3_strip : ByteArray := prog_1_method_16_code
def yX3_strip : MethodName := ⟨RX3, "strip", "(III)I"⟩
abbrev cX3_meet : ByteArray := prog_1_method_17_code
def yX3_meet : MethodName := ⟨RX3, "meet", "(III)I"⟩
abbrev cX3_plug : ByteArray := prog_1_method_18_code
def yX3_plug : MethodName := ⟨RX3, "plug", "(III)I"⟩
abbrev cX3_image : ByteArray := prog_1_method_19_code
def yX3_image : MethodName := ⟨RX3, "image", "(I)I"⟩
abbrev cX3_restore : ByteArray := prog_1_method_20_code
def yX3_restore : MethodName := ⟨RX3, "restore", "(I)I"⟩
abbrev cX3_count : ByteArray := prog_1_method_21_code
def yX3_count : MethodName := ⟨RX3, "count", "(I)I"⟩
abbrev cX3_isSlot : ByteArray := prog_1_method_22_code
def yX3_isSlot : MethodName := ⟨RX3, "isSlot", "(I)Z"⟩
abbrev cX3_isBase : ByteArray := prog_1_method_23_code
def yX3_isBase : MethodName := ⟨RX3, "isBase", "(I)Z"⟩
abbrev cX3_isPartition : ByteArray := prog_1_method_24_code
def yX3_isPartition : MethodName := ⟨RX3, "isPartition", "(I)Z"⟩
abbrev cX3_isWithin : ByteArray := prog_1_method_25_code
def yX3_isWithin : MethodName := ⟨RX3, "isWithin", "(JJ)Z"⟩
abbrev cX3_areWithin : ByteArray := prog_1_method_26_code
def yX3_areWithin : MethodName := ⟨RX3, "areWithin", "([JJ)Z"⟩
abbrev cX3_degreeOf : ByteArray := prog_1_method_27_code
def yX3_degreeOf : MethodName := ⟨RX3, "degreeOf", "([J)I"⟩
abbrev cX3_filledSlots : ByteArray := prog_1_method_28_code
def yX3_filledSlots : MethodName := ⟨RX3, "filledSlots", "()I"⟩
abbrev cX3_readPowers : ByteArray := prog_1_method_29_code
def yX3_readPowers : MethodName := ⟨RX3, "readPowers", "(II)V"⟩
abbrev cX3_holdPowers : ByteArray := prog_1_method_30_code
def yX3_holdPowers : MethodName := ⟨RX3, "holdPowers", "(I)I"⟩
abbrev cX3_hold : ByteArray := prog_1_method_31_code
def yX3_hold : MethodName := ⟨RX3, "hold", "(I)I"⟩
abbrev cX3_commonDivisor : ByteArray := prog_1_method_32_code
def yX3_commonDivisor : MethodName := ⟨RX3, "commonDivisor", "(JJ)J"⟩
def RX4 : String := "BasisMovesModel"
def TX4 : u_T := fun k => match k with
  | 0 => ("BasisMovesModel", "parts", "[I", true)
  | 1 => ("BasisMovesModel", "degrees", "[I", true)
  | 2 => ("BasisMovesModel", "byKey", "[I", true)
  | 3 => ("BasisMovesModel", "members", "[J", true)
  | 4 => ("BasisMovesModel", "areTableaux", "Z", false)
  | 5 => ("BasisMovesModel", "slots", "[J", true)
  | 6 => ("BasisMovesModel", "single", "[J", true)
  | 7 => ("BasisMovesModel", "box", "[I", true)
  | 8 => ("BasisMovesModel", "counts", "[I", true)
  | 9 => ("BasisMovesModel", "rest", "[J", true)
  | 10 => ("BasisMovesModel", "found", "[J", true)
  | 11 => ("BasisMovesModel", "plain", "[J", true)
  | 12 => ("BasisMovesModel", "work", "[J", true)
  | 13 => ("BasisMovesModel", "product", "[J", true)
  | 14 => ("BasisMovesModel", "met", "[J", true)
  | 15 => ("BasisMovesModel", "powered", "[J", true)
  | 16 => ("BasisMovesModel", "plugged", "[J", true)
  | 17 => ("BasisMovesModel", "image", "[J", true)
  | _ => ("BasisMovesModel", "isKept", "[Z", true)
def tyX4 : Nat → FieldType := fun k => match k with
  | 0 => .array .int
  | 1 => .array .int
  | 2 => .array .int
  | 3 => .array .long
  | 4 => .boolean
  | 5 => .array .long
  | 6 => .array .long
  | 7 => .array .int
  | 8 => .array .int
  | 9 => .array .long
  | 10 => .array .long
  | 11 => .array .long
  | 12 => .array .long
  | 13 => .array .long
  | 14 => .array .long
  | 15 => .array .long
  | 16 => .array .long
  | 17 => .array .long
  | _ => .array .boolean
abbrev wsX40 : List Cond := u_ws RX4 TX4 19
theorem nmX4 : ∀ a, a < 19 → ∀ b, b < 19 → a ≠ b → (TX4 a).2.1 ≠ (TX4 b).2.1 := by decide +kernel
theorem tyX4_ok : ∀ k, k < 19 → parseFieldDescriptor (TX4 k).2.2.1 = some (tyX4 k) := by decide +kernel
abbrev cX4_init : ByteArray := prog_6_method_1_code
def yX4_init : MethodName := ⟨RX4, "<init>", "()V"⟩
abbrev cX4_figure : ByteArray := prog_6_method_2_code
def yX4_figure : MethodName := ⟨RX4, "figure", "(II)I"⟩
abbrev cX4_isFalling : ByteArray := prog_6_method_3_code
def yX4_isFalling : MethodName := ⟨RX4, "isFalling", "(II)Z"⟩
abbrev cX4_key : ByteArray := prog_6_method_4_code
def yX4_key : MethodName := ⟨RX4, "key", "(I)I"⟩
abbrev cX4_layPartition : ByteArray := prog_6_method_5_code
def yX4_layPartition : MethodName := ⟨RX4, "layPartition", "(III)V"⟩
abbrev cX4_at : ByteArray := prog_6_method_6_code
def yX4_at : MethodName := ⟨RX4, "at", "(III)I"⟩
abbrev cX4_partOf : ByteArray := prog_6_method_7_code
def yX4_partOf : MethodName := ⟨RX4, "partOf", "(II)I"⟩
abbrev cX4_lengthOf : ByteArray := prog_6_method_8_code
def yX4_lengthOf : MethodName := ⟨RX4, "lengthOf", "(I)I"⟩
abbrev cX4_multiply : ByteArray := prog_6_method_9_code
def yX4_multiply : MethodName := ⟨RX4, "multiply", "([JI[JI[JI)V"⟩
abbrev cX4_layProduct : ByteArray := prog_6_method_10_code
def yX4_layProduct : MethodName := ⟨RX4, "layProduct", "(II)V"⟩
abbrev cX4_in : ByteArray := prog_6_method_11_code
def yX4_in : MethodName := ⟨RX4, "in", "(III)Z"⟩
abbrev cX4_isPartition : ByteArray := prog_6_method_12_code
def yX4_isPartition : MethodName := ⟨RX4, "isPartition", "(I)Z"⟩
abbrev cX4_isSlot : ByteArray := prog_6_method_13_code
def yX4_isSlot : MethodName := ⟨RX4, "isSlot", "(I)Z"⟩
abbrev cX4_isFilled : ByteArray := prog_6_method_14_code
def yX4_isFilled : MethodName := ⟨RX4, "isFilled", "(IIII)Z"⟩
abbrev cX4_fillings : ByteArray := prog_6_method_15_code
def yX4_fillings : MethodName := ⟨RX4, "fillings", "(II)I"⟩
abbrev cX4_layTableaux : ByteArray := prog_6_method_16_code
def yX4_layTableaux : MethodName := ⟨RX4, "layTableaux", "()V"⟩
abbrev cX4_part : ByteArray := prog_6_method_17_code
def yX4_part : MethodName := ⟨RX4, "part", "(II)I"⟩
abbrev cX4_conjugate : ByteArray := prog_6_method_18_code
def yX4_conjugate : MethodName := ⟨RX4, "conjugate", "(I)I"⟩
abbrev cX4_timesOf : ByteArray := prog_6_method_19_code
def yX4_timesOf : MethodName := ⟨RX4, "timesOf", "(II)I"⟩
abbrev cX4_alike : ByteArray := prog_6_method_20_code
def yX4_alike : MethodName := ⟨RX4, "alike", "(I)I"⟩
abbrev cX4_z : ByteArray := prog_6_method_21_code
def yX4_z : MethodName := ⟨RX4, "z", "(I)I"⟩
abbrev cX4_about : ByteArray := prog_6_method_22_code
def yX4_about : MethodName := ⟨RX4, "about", "(II)I"⟩
abbrev cX4_kostka : ByteArray := prog_6_method_23_code
def yX4_kostka : MethodName := ⟨RX4, "kostka", "(II)I"⟩
abbrev cX4_above : ByteArray := prog_6_method_24_code
def yX4_above : MethodName := ⟨RX4, "above", "(II)I"⟩
abbrev cX4_takeOff : ByteArray := prog_6_method_25_code
def yX4_takeOff : MethodName := ⟨RX4, "takeOff", "(IIJ)V"⟩
abbrev cX4_layFound : ByteArray := prog_6_method_26_code
def yX4_layFound : MethodName := ⟨RX4, "layFound", "([JII)V"⟩
abbrev cX4_layComplete : ByteArray := prog_6_method_27_code
def yX4_layComplete : MethodName := ⟨RX4, "layComplete", "()V"⟩
abbrev cX4_scalarOf : ByteArray := prog_6_method_28_code
def yX4_scalarOf : MethodName := ⟨RX4, "scalarOf", "([JI[JI)J"⟩
abbrev cX4_character : ByteArray := prog_6_method_29_code
def yX4_character : MethodName := ⟨RX4, "character", "(II)I"⟩
abbrev cX4_clearWork : ByteArray := prog_6_method_30_code
def yX4_clearWork : MethodName := ⟨RX4, "clearWork", "()V"⟩
abbrev cX4_addMember : ByteArray := prog_6_method_31_code
def yX4_addMember : MethodName := ⟨RX4, "addMember", "(IIJ)V"⟩
abbrev cX4_keep : ByteArray := prog_6_method_32_code
def yX4_keep : MethodName := ⟨RX4, "keep", "(I)I"⟩
abbrev cX4_put : ByteArray := prog_6_method_33_code
def yX4_put : MethodName := ⟨RX4, "put", "(IIII)I"⟩
abbrev cX4_add : ByteArray := prog_6_method_34_code
def yX4_add : MethodName := ⟨RX4, "add", "(III)I"⟩
abbrev cX4_degreeOf : ByteArray := prog_6_method_35_code
def yX4_degreeOf : MethodName := ⟨RX4, "degreeOf", "(I)I"⟩
abbrev cX4_degree : ByteArray := prog_6_method_36_code
def yX4_degree : MethodName := ⟨RX4, "degree", "(I)I"⟩
abbrev cX4_common : ByteArray := prog_6_method_37_code
def yX4_common : MethodName := ⟨RX4, "common", "(JJ)J"⟩
abbrev cX4_coefficient : ByteArray := prog_6_method_38_code
def yX4_coefficient : MethodName := ⟨RX4, "coefficient", "(IIII)J"⟩
abbrev cX4_next : ByteArray := prog_6_method_39_code
def yX4_next : MethodName := ⟨RX4, "next", "(III)I"⟩
abbrev cX4_power : ByteArray := prog_6_method_40_code
def yX4_power : MethodName := ⟨RX4, "power", "(II)J"⟩
abbrev cX4_value : ByteArray := prog_6_method_41_code
def yX4_value : MethodName := ⟨RX4, "value", "(IIII)J"⟩
abbrev cX4_scalar : ByteArray := prog_6_method_42_code
def yX4_scalar : MethodName := ⟨RX4, "scalar", "(II)J"⟩
abbrev cX4_times : ByteArray := prog_6_method_43_code
def yX4_times : MethodName := ⟨RX4, "times", "(III)I"⟩
abbrev cX4_turn : ByteArray := prog_6_method_44_code
def yX4_turn : MethodName := ⟨RX4, "turn", "(II)I"⟩
abbrev cX4_strip : ByteArray := prog_6_method_45_code
def yX4_strip : MethodName := ⟨RX4, "strip", "(III)I"⟩
abbrev cX4_layMet : ByteArray := prog_6_method_46_code
def yX4_layMet : MethodName := ⟨RX4, "layMet", "(I)V"⟩
abbrev cX4_meet : ByteArray := prog_6_method_47_code
def yX4_meet : MethodName := ⟨RX4, "meet", "(III)I"⟩
abbrev cX4_layPower : ByteArray := prog_6_method_48_code
def yX4_layPower : MethodName := ⟨RX4, "layPower", "(II)V"⟩
abbrev cX4_layPlugged : ByteArray := prog_6_method_49_code
def yX4_layPlugged : MethodName := ⟨RX4, "layPlugged", "(II)V"⟩
abbrev cX4_isWithin : ByteArray := prog_6_method_50_code
def yX4_isWithin : MethodName := ⟨RX4, "isWithin", "(II)Z"⟩
abbrev cX4_plug : ByteArray := prog_6_method_51_code
def yX4_plug : MethodName := ⟨RX4, "plug", "(III)I"⟩
abbrev cX4_image : ByteArray := prog_6_method_52_code
def yX4_image : MethodName := ⟨RX4, "image", "(I)I"⟩
abbrev cX4_restore : ByteArray := prog_6_method_53_code
def yX4_restore : MethodName := ⟨RX4, "restore", "(I)I"⟩
abbrev cX4_ofDegree : ByteArray := prog_6_method_54_code
def yX4_ofDegree : MethodName := ⟨RX4, "ofDegree", "(IZ)I"⟩
abbrev cX4_count : ByteArray := prog_6_method_55_code
def yX4_count : MethodName := ⟨RX4, "count", "(I)I"⟩
def RJ9 : String := "java/lang/Math"
def TJ9 : u_T := fun k => match k with
  | _ => ("", "", "", false)
def tyJ9 : Nat → FieldType := fun k => match k with
  | _ => .int
abbrev wsJ90 : List Cond := u_ws RJ9 TJ9 0
theorem nmJ9 : ∀ a, a < 0 → ∀ b, b < 0 → a ≠ b → (TJ9 a).2.1 ≠ (TJ9 b).2.1 := by decide +kernel
theorem tyJ9_ok : ∀ k, k < 0 → parseFieldDescriptor (TJ9 k).2.2.1 = some (tyJ9 k) := by decide +kernel
abbrev cJ9_abs_067f4 : ByteArray := prog_7_method_61_code
def yJ9_abs_067f4 : MethodName := ⟨RJ9, "abs", "(J)J"⟩
abbrev cJ9_min_7cf53 : ByteArray := prog_7_method_69_code
def yJ9_min_7cf53 : MethodName := ⟨RJ9, "min", "(II)I"⟩
def RJ10 : String := "java/lang/System"
def TJ10 : u_T := fun k => match k with
  | _ => ("", "", "", false)
def tyJ10 : Nat → FieldType := fun k => match k with
  | _ => .int
abbrev wsJ100 : List Cond := u_ws RJ10 TJ10 0
theorem nmJ10 : ∀ a, a < 0 → ∀ b, b < 0 → a ≠ b → (TJ10 a).2.1 ≠ (TJ10 b).2.1 := by decide +kernel
theorem tyJ10_ok : ∀ k, k < 0 → parseFieldDescriptor (TJ10 k).2.2.1 = some (tyJ10 k) := by decide +kernel
def RJ7 : String := "java/util/Arrays"
def TJ7 : u_T := fun k => match k with
  | _ => ("", "", "", false)
def tyJ7 : Nat → FieldType := fun k => match k with
  | _ => .int
abbrev wsJ70 : List Cond := u_ws RJ7 TJ7 0
theorem nmJ7 : ∀ a, a < 0 → ∀ b, b < 0 → a ≠ b → (TJ7 a).2.1 ≠ (TJ7 b).2.1 := by decide +kernel
theorem tyJ7_ok : ∀ k, k < 0 → parseFieldDescriptor (TJ7 k).2.2.1 = some (tyJ7 k) := by decide +kernel
abbrev cJ7_fill_d0a16 : ByteArray := prog_9_method_101_code
def yJ7_fill_d0a16 : MethodName := ⟨RJ7, "fill", "([JJ)V"⟩
def RL : String := "BasisMovesLaw"
abbrev cL_law : ByteArray := code
def yL_law : MethodName := ⟨RL, "law", "([I)Z"⟩
abbrev vwCl : List vw_C := [(RX0, TX0, 3), (RX1, TX1, 8), (RX2, TX2, 4), (RX3, TX3, 9), (RX4, TX4, 19)]
end
section
theorem dX4_init_0 : decode cX4_init 0 = .ok (.aload_n 0, 1) := by decide +kernel
theorem dX4_init_1 : decode cX4_init 1 = .ok (.invokespecial 1, 3) := by decide +kernel
theorem dX4_init_4 : decode cX4_init 4 = .ok (.aload_n 0, 1) := by decide +kernel
theorem dX4_init_5 : decode cX4_init 5 = .ok (.sipush 180, 3) := by decide +kernel
theorem dX4_init_8 : decode cX4_init 8 = .ok (.newarray .int, 2) := by decide +kernel
theorem dX4_init_10 : decode cX4_init 10 = .ok (.putfield 7, 3) := by decide +kernel
theorem dX4_init_13 : decode cX4_init 13 = .ok (.aload_n 0, 1) := by decide +kernel
theorem dX4_init_14 : decode cX4_init 14 = .ok (.bipush 30, 2) := by decide +kernel
theorem dX4_init_16 : decode cX4_init 16 = .ok (.newarray .int, 2) := by decide +kernel
theorem dX4_init_18 : decode cX4_init 18 = .ok (.putfield 13, 3) := by decide +kernel
theorem dX4_init_21 : decode cX4_init 21 = .ok (.aload_n 0, 1) := by decide +kernel
theorem dX4_init_22 : decode cX4_init 22 = .ok (.sipush 672, 3) := by decide +kernel
theorem dX4_init_25 : decode cX4_init 25 = .ok (.newarray .int, 2) := by decide +kernel
theorem dX4_init_27 : decode cX4_init 27 = .ok (.putfield 16, 3) := by decide +kernel
theorem dX4_init_30 : decode cX4_init 30 = .ok (.aload_n 0, 1) := by decide +kernel
theorem dX4_init_31 : decode cX4_init 31 = .ok (.sipush 4500, 3) := by decide +kernel
theorem dX4_init_34 : decode cX4_init 34 = .ok (.newarray .long, 2) := by decide +kernel
theorem dX4_init_36 : decode cX4_init 36 = .ok (.putfield 19, 3) := by decide +kernel
theorem dX4_init_39 : decode cX4_init 39 = .ok (.aload_n 0, 1) := by decide +kernel
theorem dX4_init_40 : decode cX4_init 40 = .ok (.sipush 240, 3) := by decide +kernel
theorem dX4_init_43 : decode cX4_init 43 = .ok (.newarray .long, 2) := by decide +kernel
theorem dX4_init_45 : decode cX4_init 45 = .ok (.putfield 23, 3) := by decide +kernel
theorem dX4_init_48 : decode cX4_init 48 = .ok (.aload_n 0, 1) := by decide +kernel
theorem dX4_init_49 : decode cX4_init 49 = .ok (.bipush 30, 2) := by decide +kernel
theorem dX4_init_51 : decode cX4_init 51 = .ok (.newarray .long, 2) := by decide +kernel
theorem dX4_init_53 : decode cX4_init 53 = .ok (.putfield 26, 3) := by decide +kernel
theorem dX4_init_56 : decode cX4_init 56 = .ok (.aload_n 0, 1) := by decide +kernel
theorem dX4_init_57 : decode cX4_init 57 = .ok (.bipush 6, 2) := by decide +kernel
theorem dX4_init_59 : decode cX4_init 59 = .ok (.newarray .int, 2) := by decide +kernel
theorem dX4_init_61 : decode cX4_init 61 = .ok (.putfield 29, 3) := by decide +kernel
theorem dX4_init_64 : decode cX4_init 64 = .ok (.aload_n 0, 1) := by decide +kernel
theorem dX4_init_65 : decode cX4_init 65 = .ok (.bipush 6, 2) := by decide +kernel
theorem dX4_init_67 : decode cX4_init 67 = .ok (.newarray .int, 2) := by decide +kernel
theorem dX4_init_69 : decode cX4_init 69 = .ok (.putfield 32, 3) := by decide +kernel
theorem dX4_init_72 : decode cX4_init 72 = .ok (.aload_n 0, 1) := by decide +kernel
theorem dX4_init_73 : decode cX4_init 73 = .ok (.bipush 30, 2) := by decide +kernel
theorem dX4_init_75 : decode cX4_init 75 = .ok (.newarray .long, 2) := by decide +kernel
theorem dX4_init_77 : decode cX4_init 77 = .ok (.putfield 35, 3) := by decide +kernel
theorem dX4_init_80 : decode cX4_init 80 = .ok (.aload_n 0, 1) := by decide +kernel
theorem dX4_init_81 : decode cX4_init 81 = .ok (.bipush 30, 2) := by decide +kernel
theorem dX4_init_83 : decode cX4_init 83 = .ok (.newarray .long, 2) := by decide +kernel
theorem dX4_init_85 : decode cX4_init 85 = .ok (.putfield 38, 3) := by decide +kernel
theorem dX4_init_88 : decode cX4_init 88 = .ok (.aload_n 0, 1) := by decide +kernel
theorem dX4_init_89 : decode cX4_init 89 = .ok (.bipush 30, 2) := by decide +kernel
theorem dX4_init_91 : decode cX4_init 91 = .ok (.newarray .long, 2) := by decide +kernel
theorem dX4_init_93 : decode cX4_init 93 = .ok (.putfield 41, 3) := by decide +kernel
theorem dX4_init_96 : decode cX4_init 96 = .ok (.aload_n 0, 1) := by decide +kernel
theorem dX4_init_97 : decode cX4_init 97 = .ok (.bipush 30, 2) := by decide +kernel
theorem dX4_init_99 : decode cX4_init 99 = .ok (.newarray .long, 2) := by decide +kernel
theorem dX4_init_101 : decode cX4_init 101 = .ok (.putfield 44, 3) := by decide +kernel
theorem dX4_init_104 : decode cX4_init 104 = .ok (.aload_n 0, 1) := by decide +kernel
theorem dX4_init_105 : decode cX4_init 105 = .ok (.bipush 30, 2) := by decide +kernel
theorem dX4_init_107 : decode cX4_init 107 = .ok (.newarray .long, 2) := by decide +kernel
theorem dX4_init_109 : decode cX4_init 109 = .ok (.putfield 47, 3) := by decide +kernel
theorem dX4_init_112 : decode cX4_init 112 = .ok (.aload_n 0, 1) := by decide +kernel
theorem dX4_init_113 : decode cX4_init 113 = .ok (.bipush 30, 2) := by decide +kernel
theorem dX4_init_115 : decode cX4_init 115 = .ok (.newarray .long, 2) := by decide +kernel
theorem dX4_init_117 : decode cX4_init 117 = .ok (.putfield 50, 3) := by decide +kernel
theorem dX4_init_120 : decode cX4_init 120 = .ok (.aload_n 0, 1) := by decide +kernel
theorem dX4_init_121 : decode cX4_init 121 = .ok (.bipush 30, 2) := by decide +kernel
theorem dX4_init_123 : decode cX4_init 123 = .ok (.newarray .long, 2) := by decide +kernel
theorem dX4_init_125 : decode cX4_init 125 = .ok (.putfield 53, 3) := by decide +kernel
theorem dX4_init_128 : decode cX4_init 128 = .ok (.aload_n 0, 1) := by decide +kernel
theorem dX4_init_129 : decode cX4_init 129 = .ok (.bipush 30, 2) := by decide +kernel
theorem dX4_init_131 : decode cX4_init 131 = .ok (.newarray .long, 2) := by decide +kernel
theorem dX4_init_133 : decode cX4_init 133 = .ok (.putfield 56, 3) := by decide +kernel
theorem dX4_init_136 : decode cX4_init 136 = .ok (.aload_n 0, 1) := by decide +kernel
theorem dX4_init_137 : decode cX4_init 137 = .ok (.sipush 480, 3) := by decide +kernel
theorem dX4_init_140 : decode cX4_init 140 = .ok (.newarray .long, 2) := by decide +kernel
theorem dX4_init_142 : decode cX4_init 142 = .ok (.putfield 59, 3) := by decide +kernel
theorem dX4_init_145 : decode cX4_init 145 = .ok (.aload_n 0, 1) := by decide +kernel
theorem dX4_init_146 : decode cX4_init 146 = .ok (.iconst 2, 1) := by decide +kernel
theorem dX4_init_147 : decode cX4_init 147 = .ok (.newarray .boolean, 2) := by decide +kernel
theorem dX4_init_149 : decode cX4_init 149 = .ok (.putfield 62, 3) := by decide +kernel
theorem dX4_init_152 : decode cX4_init 152 = .ok (.iconst 0, 1) := by decide +kernel
theorem dX4_init_153 : decode cX4_init 153 = .ok (.istore_n 1, 1) := by decide +kernel
theorem dX4_init_154 : decode cX4_init 154 = .ok (.iconst 0, 1) := by decide +kernel
theorem dX4_init_155 : decode cX4_init 155 = .ok (.istore_n 2, 1) := by decide +kernel
theorem dX4_init_156 : decode cX4_init 156 = .ok (.iload_n 2, 1) := by decide +kernel
theorem dX4_init_157 : decode cX4_init 157 = .ok (.bipush 6, 2) := by decide +kernel
theorem dX4_init_159 : decode cX4_init 159 = .ok (.if_icmp .gt 40, 3) := by decide +kernel
theorem dX4_init_162 : decode cX4_init 162 = .ok (.ldc 66, 2) := by decide +kernel
theorem dX4_init_164 : decode cX4_init 164 = .ok (.istore_n 3, 1) := by decide +kernel
theorem dX4_init_165 : decode cX4_init 165 = .ok (.iload_n 3, 1) := by decide +kernel
theorem dX4_init_166 : decode cX4_init 166 = .ok (.ifCond .lt 27, 3) := by decide +kernel
theorem dX4_init_169 : decode cX4_init 169 = .ok (.iload_n 3, 1) := by decide +kernel
theorem dX4_init_170 : decode cX4_init 170 = .ok (.iload_n 2, 1) := by decide +kernel
theorem dX4_init_171 : decode cX4_init 171 = .ok (.invokestatic 67, 3) := by decide +kernel
theorem dX4_init_174 : decode cX4_init 174 = .ok (.ifCond .eq 13, 3) := by decide +kernel
theorem dX4_init_177 : decode cX4_init 177 = .ok (.aload_n 0, 1) := by decide +kernel
theorem dX4_init_178 : decode cX4_init 178 = .ok (.iload_n 1, 1) := by decide +kernel
theorem dX4_init_179 : decode cX4_init 179 = .ok (.iload_n 3, 1) := by decide +kernel
theorem dX4_init_180 : decode cX4_init 180 = .ok (.iload_n 2, 1) := by decide +kernel
theorem dX4_init_181 : decode cX4_init 181 = .ok (.invokevirtual 71, 3) := by decide +kernel
theorem dX4_init_184 : decode cX4_init 184 = .ok (.iinc 1 1, 3) := by decide +kernel
theorem dX4_init_187 : decode cX4_init 187 = .ok (.iinc 3 (-1), 3) := by decide +kernel
theorem dX4_init_190 : decode cX4_init 190 = .ok (.goto (-25), 3) := by decide +kernel
theorem dX4_init_193 : decode cX4_init 193 = .ok (.iinc 2 1, 3) := by decide +kernel
theorem dX4_init_196 : decode cX4_init 196 = .ok (.goto (-40), 3) := by decide +kernel
theorem dX4_init_199 : decode cX4_init 199 = .ok (.iconst 0, 1) := by decide +kernel
theorem dX4_init_200 : decode cX4_init 200 = .ok (.istore_n 2, 1) := by decide +kernel
theorem dX4_init_201 : decode cX4_init 201 = .ok (.iload_n 2, 1) := by decide +kernel
theorem dX4_init_202 : decode cX4_init 202 = .ok (.bipush 30, 2) := by decide +kernel
theorem dX4_init_204 : decode cX4_init 204 = .ok (.if_icmp .ge 39, 3) := by decide +kernel
theorem dX4_init_207 : decode cX4_init 207 = .ok (.aload_n 0, 1) := by decide +kernel
theorem dX4_init_208 : decode cX4_init 208 = .ok (.getfield 19, 3) := by decide +kernel
theorem dX4_init_211 : decode cX4_init 211 = .ok (.iconst 0, 1) := by decide +kernel
theorem dX4_init_212 : decode cX4_init 212 = .ok (.iload_n 2, 1) := by decide +kernel
theorem dX4_init_213 : decode cX4_init 213 = .ok (.iload_n 2, 1) := by decide +kernel
theorem dX4_init_214 : decode cX4_init 214 = .ok (.invokestatic 75, 3) := by decide +kernel
theorem dX4_init_217 : decode cX4_init 217 = .ok (.lconst 1, 1) := by decide +kernel
theorem dX4_init_218 : decode cX4_init 218 = .ok (.lastore, 1) := by decide +kernel
theorem dX4_init_219 : decode cX4_init 219 = .ok (.aload_n 0, 1) := by decide +kernel
theorem dX4_init_220 : decode cX4_init 220 = .ok (.iconst 1, 1) := by decide +kernel
theorem dX4_init_221 : decode cX4_init 221 = .ok (.iload_n 2, 1) := by decide +kernel
theorem dX4_init_222 : decode cX4_init 222 = .ok (.invokevirtual 79, 3) := by decide +kernel
theorem dX4_init_225 : decode cX4_init 225 = .ok (.aload_n 0, 1) := by decide +kernel
theorem dX4_init_226 : decode cX4_init 226 = .ok (.iconst 2, 1) := by decide +kernel
theorem dX4_init_227 : decode cX4_init 227 = .ok (.iload_n 2, 1) := by decide +kernel
theorem dX4_init_228 : decode cX4_init 228 = .ok (.invokevirtual 79, 3) := by decide +kernel
theorem dX4_init_231 : decode cX4_init 231 = .ok (.aload_n 0, 1) := by decide +kernel
theorem dX4_init_232 : decode cX4_init 232 = .ok (.iconst 3, 1) := by decide +kernel
theorem dX4_init_233 : decode cX4_init 233 = .ok (.iload_n 2, 1) := by decide +kernel
theorem dX4_init_234 : decode cX4_init 234 = .ok (.invokevirtual 79, 3) := by decide +kernel
theorem dX4_init_237 : decode cX4_init 237 = .ok (.iinc 2 1, 3) := by decide +kernel
theorem dX4_init_240 : decode cX4_init 240 = .ok (.goto (-39), 3) := by decide +kernel
theorem dX4_init_243 : decode cX4_init 243 = .ok (.return_, 1) := by decide +kernel
theorem dX4_figure_0 : decode cX4_figure 0 = .ok (.iload_n 0, 1) := by decide +kernel
theorem dX4_figure_1 : decode cX4_figure 1 = .ok (.istore_n 2, 1) := by decide +kernel
theorem dX4_figure_2 : decode cX4_figure 2 = .ok (.iconst 0, 1) := by decide +kernel
theorem dX4_figure_3 : decode cX4_figure 3 = .ok (.istore_n 3, 1) := by decide +kernel
theorem dX4_figure_4 : decode cX4_figure 4 = .ok (.iload_n 3, 1) := by decide +kernel
theorem dX4_figure_5 : decode cX4_figure 5 = .ok (.iconst 5, 1) := by decide +kernel
theorem dX4_figure_6 : decode cX4_figure 6 = .ok (.iload_n 1, 1) := by decide +kernel
theorem dX4_figure_7 : decode cX4_figure 7 = .ok (.isub, 1) := by decide +kernel
theorem dX4_figure_8 : decode cX4_figure 8 = .ok (.if_icmp .ge 14, 3) := by decide +kernel
theorem dX4_figure_11 : decode cX4_figure 11 = .ok (.iload_n 2, 1) := by decide +kernel
theorem dX4_figure_12 : decode cX4_figure 12 = .ok (.bipush 7, 2) := by decide +kernel
theorem dX4_figure_14 : decode cX4_figure 14 = .ok (.idiv, 1) := by decide +kernel
theorem dX4_figure_15 : decode cX4_figure 15 = .ok (.istore_n 2, 1) := by decide +kernel
theorem dX4_figure_16 : decode cX4_figure 16 = .ok (.iinc 3 1, 3) := by decide +kernel
theorem dX4_figure_19 : decode cX4_figure 19 = .ok (.goto (-15), 3) := by decide +kernel
theorem dX4_figure_22 : decode cX4_figure 22 = .ok (.iload_n 2, 1) := by decide +kernel
theorem dX4_figure_23 : decode cX4_figure 23 = .ok (.bipush 7, 2) := by decide +kernel
theorem dX4_figure_25 : decode cX4_figure 25 = .ok (.irem, 1) := by decide +kernel
theorem dX4_figure_26 : decode cX4_figure 26 = .ok (.ireturn, 1) := by decide +kernel
theorem dX4_isFalling_0 : decode cX4_isFalling 0 = .ok (.bipush 6, 2) := by decide +kernel
theorem dX4_isFalling_2 : decode cX4_isFalling 2 = .ok (.istore_n 2, 1) := by decide +kernel
theorem dX4_isFalling_3 : decode cX4_isFalling 3 = .ok (.iconst 0, 1) := by decide +kernel
theorem dX4_isFalling_4 : decode cX4_isFalling 4 = .ok (.istore_n 3, 1) := by decide +kernel
theorem dX4_isFalling_5 : decode cX4_isFalling 5 = .ok (.iload_n 0, 1) := by decide +kernel
theorem dX4_isFalling_6 : decode cX4_isFalling 6 = .ok (.istore 4, 2) := by decide +kernel
theorem dX4_isFalling_8 : decode cX4_isFalling 8 = .ok (.iconst 0, 1) := by decide +kernel
theorem dX4_isFalling_9 : decode cX4_isFalling 9 = .ok (.istore 5, 2) := by decide +kernel
theorem dX4_isFalling_11 : decode cX4_isFalling 11 = .ok (.iconst 0, 1) := by decide +kernel
theorem dX4_isFalling_12 : decode cX4_isFalling 12 = .ok (.istore 6, 2) := by decide +kernel
theorem dX4_isFalling_14 : decode cX4_isFalling 14 = .ok (.iload 6, 2) := by decide +kernel
theorem dX4_isFalling_16 : decode cX4_isFalling 16 = .ok (.bipush 6, 2) := by decide +kernel
theorem dX4_isFalling_18 : decode cX4_isFalling 18 = .ok (.if_icmp .ge 47, 3) := by decide +kernel
theorem dX4_isFalling_21 : decode cX4_isFalling 21 = .ok (.iload 4, 2) := by decide +kernel
theorem dX4_isFalling_23 : decode cX4_isFalling 23 = .ok (.bipush 7, 2) := by decide +kernel
theorem dX4_isFalling_25 : decode cX4_isFalling 25 = .ok (.irem, 1) := by decide +kernel
theorem dX4_isFalling_26 : decode cX4_isFalling 26 = .ok (.istore 7, 2) := by decide +kernel
theorem dX4_isFalling_28 : decode cX4_isFalling 28 = .ok (.iload 7, 2) := by decide +kernel
theorem dX4_isFalling_30 : decode cX4_isFalling 30 = .ok (.iload 5, 2) := by decide +kernel
theorem dX4_isFalling_32 : decode cX4_isFalling 32 = .ok (.if_icmp .lt 9, 3) := by decide +kernel
theorem dX4_isFalling_35 : decode cX4_isFalling 35 = .ok (.iload 7, 2) := by decide +kernel
theorem dX4_isFalling_37 : decode cX4_isFalling 37 = .ok (.iload_n 2, 1) := by decide +kernel
theorem dX4_isFalling_38 : decode cX4_isFalling 38 = .ok (.if_icmp .le 5, 3) := by decide +kernel
theorem dX4_isFalling_41 : decode cX4_isFalling 41 = .ok (.iconst 0, 1) := by decide +kernel
theorem dX4_isFalling_42 : decode cX4_isFalling 42 = .ok (.ireturn, 1) := by decide +kernel
theorem dX4_isFalling_43 : decode cX4_isFalling 43 = .ok (.iload 7, 2) := by decide +kernel
theorem dX4_isFalling_45 : decode cX4_isFalling 45 = .ok (.istore 5, 2) := by decide +kernel
theorem dX4_isFalling_47 : decode cX4_isFalling 47 = .ok (.iload_n 3, 1) := by decide +kernel
theorem dX4_isFalling_48 : decode cX4_isFalling 48 = .ok (.iload 7, 2) := by decide +kernel
theorem dX4_isFalling_50 : decode cX4_isFalling 50 = .ok (.iadd, 1) := by decide +kernel
theorem dX4_isFalling_51 : decode cX4_isFalling 51 = .ok (.istore_n 3, 1) := by decide +kernel
theorem dX4_isFalling_52 : decode cX4_isFalling 52 = .ok (.iload 4, 2) := by decide +kernel
theorem dX4_isFalling_54 : decode cX4_isFalling 54 = .ok (.bipush 7, 2) := by decide +kernel
theorem dX4_isFalling_56 : decode cX4_isFalling 56 = .ok (.idiv, 1) := by decide +kernel
theorem dX4_isFalling_57 : decode cX4_isFalling 57 = .ok (.istore 4, 2) := by decide +kernel
theorem dX4_isFalling_59 : decode cX4_isFalling 59 = .ok (.iinc 6 1, 3) := by decide +kernel
theorem dX4_isFalling_62 : decode cX4_isFalling 62 = .ok (.goto (-48), 3) := by decide +kernel
theorem dX4_isFalling_65 : decode cX4_isFalling 65 = .ok (.iload_n 3, 1) := by decide +kernel
theorem dX4_isFalling_66 : decode cX4_isFalling 66 = .ok (.iload_n 1, 1) := by decide +kernel
theorem dX4_isFalling_67 : decode cX4_isFalling 67 = .ok (.if_icmp .ne 7, 3) := by decide +kernel
theorem dX4_isFalling_70 : decode cX4_isFalling 70 = .ok (.iconst 1, 1) := by decide +kernel
theorem dX4_isFalling_71 : decode cX4_isFalling 71 = .ok (.goto 4, 3) := by decide +kernel
theorem dX4_isFalling_74 : decode cX4_isFalling 74 = .ok (.iconst 0, 1) := by decide +kernel
theorem dX4_isFalling_75 : decode cX4_isFalling 75 = .ok (.ireturn, 1) := by decide +kernel
theorem dX4_key_0 : decode cX4_key 0 = .ok (.iload_n 0, 1) := by decide +kernel
theorem dX4_key_1 : decode cX4_key 1 = .ok (.ifCond .ne 7, 3) := by decide +kernel
theorem dX4_key_4 : decode cX4_key 4 = .ok (.iconst 0, 1) := by decide +kernel
theorem dX4_key_5 : decode cX4_key 5 = .ok (.goto 56, 3) := by decide +kernel
theorem dX4_key_8 : decode cX4_key 8 = .ok (.iload_n 0, 1) := by decide +kernel
theorem dX4_key_9 : decode cX4_key 9 = .ok (.iconst 1, 1) := by decide +kernel
theorem dX4_key_10 : decode cX4_key 10 = .ok (.if_icmp .ne 7, 3) := by decide +kernel
theorem dX4_key_13 : decode cX4_key 13 = .ok (.iconst 1, 1) := by decide +kernel
theorem dX4_key_14 : decode cX4_key 14 = .ok (.goto 47, 3) := by decide +kernel
theorem dX4_key_17 : decode cX4_key 17 = .ok (.iload_n 0, 1) := by decide +kernel
theorem dX4_key_18 : decode cX4_key 18 = .ok (.iconst 2, 1) := by decide +kernel
theorem dX4_key_19 : decode cX4_key 19 = .ok (.if_icmp .ne 8, 3) := by decide +kernel
theorem dX4_key_22 : decode cX4_key 22 = .ok (.bipush 7, 2) := by decide +kernel
theorem dX4_key_24 : decode cX4_key 24 = .ok (.goto 37, 3) := by decide +kernel
theorem dX4_key_27 : decode cX4_key 27 = .ok (.iload_n 0, 1) := by decide +kernel
theorem dX4_key_28 : decode cX4_key 28 = .ok (.iconst 3, 1) := by decide +kernel
theorem dX4_key_29 : decode cX4_key 29 = .ok (.if_icmp .ne 8, 3) := by decide +kernel
theorem dX4_key_32 : decode cX4_key 32 = .ok (.bipush 28, 2) := by decide +kernel
theorem dX4_key_34 : decode cX4_key 34 = .ok (.goto 27, 3) := by decide +kernel
theorem dX4_key_37 : decode cX4_key 37 = .ok (.iload_n 0, 1) := by decide +kernel
theorem dX4_key_38 : decode cX4_key 38 = .ok (.iconst 4, 1) := by decide +kernel
theorem dX4_key_39 : decode cX4_key 39 = .ok (.if_icmp .ne 8, 3) := by decide +kernel
theorem dX4_key_42 : decode cX4_key 42 = .ok (.bipush 84, 2) := by decide +kernel
theorem dX4_key_44 : decode cX4_key 44 = .ok (.goto 17, 3) := by decide +kernel
theorem dX4_key_47 : decode cX4_key 47 = .ok (.iload_n 0, 1) := by decide +kernel
theorem dX4_key_48 : decode cX4_key 48 = .ok (.iconst 5, 1) := by decide +kernel
theorem dX4_key_49 : decode cX4_key 49 = .ok (.if_icmp .ne 9, 3) := by decide +kernel
theorem dX4_key_52 : decode cX4_key 52 = .ok (.sipush 168, 3) := by decide +kernel
theorem dX4_key_55 : decode cX4_key 55 = .ok (.goto 6, 3) := by decide +kernel
theorem dX4_key_58 : decode cX4_key 58 = .ok (.sipush 336, 3) := by decide +kernel
theorem dX4_key_61 : decode cX4_key 61 = .ok (.ireturn, 1) := by decide +kernel
theorem dX4_layPartition_0 : decode cX4_layPartition 0 = .ok (.iconst 0, 1) := by decide +kernel
theorem dX4_layPartition_1 : decode cX4_layPartition 1 = .ok (.istore 4, 2) := by decide +kernel
theorem dX4_layPartition_3 : decode cX4_layPartition 3 = .ok (.iconst 0, 1) := by decide +kernel
theorem dX4_layPartition_4 : decode cX4_layPartition 4 = .ok (.istore 5, 2) := by decide +kernel
theorem dX4_layPartition_6 : decode cX4_layPartition 6 = .ok (.iload 5, 2) := by decide +kernel
theorem dX4_layPartition_8 : decode cX4_layPartition 8 = .ok (.bipush 6, 2) := by decide +kernel
theorem dX4_layPartition_10 : decode cX4_layPartition 10 = .ok (.if_icmp .ge 47, 3) := by decide +kernel
theorem dX4_layPartition_13 : decode cX4_layPartition 13 = .ok (.aload_n 0, 1) := by decide +kernel
theorem dX4_layPartition_14 : decode cX4_layPartition 14 = .ok (.getfield 7, 3) := by decide +kernel
theorem dX4_layPartition_17 : decode cX4_layPartition 17 = .ok (.bipush 6, 2) := by decide +kernel
theorem dX4_layPartition_19 : decode cX4_layPartition 19 = .ok (.iload_n 1, 1) := by decide +kernel
theorem dX4_layPartition_20 : decode cX4_layPartition 20 = .ok (.imul, 1) := by decide +kernel
theorem dX4_layPartition_21 : decode cX4_layPartition 21 = .ok (.iload 5, 2) := by decide +kernel
theorem dX4_layPartition_23 : decode cX4_layPartition 23 = .ok (.iadd, 1) := by decide +kernel
theorem dX4_layPartition_24 : decode cX4_layPartition 24 = .ok (.iload_n 2, 1) := by decide +kernel
theorem dX4_layPartition_25 : decode cX4_layPartition 25 = .ok (.iload 5, 2) := by decide +kernel
theorem dX4_layPartition_27 : decode cX4_layPartition 27 = .ok (.invokestatic 83, 3) := by decide +kernel
theorem dX4_layPartition_30 : decode cX4_layPartition 30 = .ok (.iastore, 1) := by decide +kernel
theorem dX4_layPartition_31 : decode cX4_layPartition 31 = .ok (.iload 4, 2) := by decide +kernel
theorem dX4_layPartition_33 : decode cX4_layPartition 33 = .ok (.aload_n 0, 1) := by decide +kernel
theorem dX4_layPartition_34 : decode cX4_layPartition 34 = .ok (.getfield 7, 3) := by decide +kernel
theorem dX4_layPartition_37 : decode cX4_layPartition 37 = .ok (.bipush 6, 2) := by decide +kernel
theorem dX4_layPartition_39 : decode cX4_layPartition 39 = .ok (.iload_n 1, 1) := by decide +kernel
theorem dX4_layPartition_40 : decode cX4_layPartition 40 = .ok (.imul, 1) := by decide +kernel
theorem dX4_layPartition_41 : decode cX4_layPartition 41 = .ok (.iload 5, 2) := by decide +kernel
theorem dX4_layPartition_43 : decode cX4_layPartition 43 = .ok (.iadd, 1) := by decide +kernel
theorem dX4_layPartition_44 : decode cX4_layPartition 44 = .ok (.iaload, 1) := by decide +kernel
theorem dX4_layPartition_45 : decode cX4_layPartition 45 = .ok (.invokestatic 87, 3) := by decide +kernel
theorem dX4_layPartition_48 : decode cX4_layPartition 48 = .ok (.iadd, 1) := by decide +kernel
theorem dX4_layPartition_49 : decode cX4_layPartition 49 = .ok (.istore 4, 2) := by decide +kernel
theorem dX4_layPartition_51 : decode cX4_layPartition 51 = .ok (.iinc 5 1, 3) := by decide +kernel
theorem dX4_layPartition_54 : decode cX4_layPartition 54 = .ok (.goto (-48), 3) := by decide +kernel
theorem dX4_layPartition_57 : decode cX4_layPartition 57 = .ok (.aload_n 0, 1) := by decide +kernel
theorem dX4_layPartition_58 : decode cX4_layPartition 58 = .ok (.getfield 13, 3) := by decide +kernel
theorem dX4_layPartition_61 : decode cX4_layPartition 61 = .ok (.iload_n 1, 1) := by decide +kernel
theorem dX4_layPartition_62 : decode cX4_layPartition 62 = .ok (.iload_n 3, 1) := by decide +kernel
theorem dX4_layPartition_63 : decode cX4_layPartition 63 = .ok (.iastore, 1) := by decide +kernel
theorem dX4_layPartition_64 : decode cX4_layPartition 64 = .ok (.aload_n 0, 1) := by decide +kernel
theorem dX4_layPartition_65 : decode cX4_layPartition 65 = .ok (.getfield 16, 3) := by decide +kernel
theorem dX4_layPartition_68 : decode cX4_layPartition 68 = .ok (.iload 4, 2) := by decide +kernel
theorem dX4_layPartition_70 : decode cX4_layPartition 70 = .ok (.iload_n 1, 1) := by decide +kernel
theorem dX4_layPartition_71 : decode cX4_layPartition 71 = .ok (.iastore, 1) := by decide +kernel
theorem dX4_layPartition_72 : decode cX4_layPartition 72 = .ok (.return_, 1) := by decide +kernel
theorem dX4_at_0 : decode cX4_at 0 = .ok (.bipush 30, 2) := by decide +kernel
theorem dX4_at_2 : decode cX4_at 2 = .ok (.bipush 30, 2) := by decide +kernel
theorem dX4_at_4 : decode cX4_at 4 = .ok (.iload_n 0, 1) := by decide +kernel
theorem dX4_at_5 : decode cX4_at 5 = .ok (.imul, 1) := by decide +kernel
theorem dX4_at_6 : decode cX4_at 6 = .ok (.iload_n 1, 1) := by decide +kernel
theorem dX4_at_7 : decode cX4_at 7 = .ok (.iadd, 1) := by decide +kernel
theorem dX4_at_8 : decode cX4_at 8 = .ok (.imul, 1) := by decide +kernel
theorem dX4_at_9 : decode cX4_at 9 = .ok (.iload_n 2, 1) := by decide +kernel
theorem dX4_at_10 : decode cX4_at 10 = .ok (.iadd, 1) := by decide +kernel
theorem dX4_at_11 : decode cX4_at 11 = .ok (.ireturn, 1) := by decide +kernel
theorem dX4_partOf_0 : decode cX4_partOf 0 = .ok (.aload_n 0, 1) := by decide +kernel
theorem dX4_partOf_1 : decode cX4_partOf 1 = .ok (.getfield 7, 3) := by decide +kernel
theorem dX4_partOf_4 : decode cX4_partOf 4 = .ok (.bipush 6, 2) := by decide +kernel
theorem dX4_partOf_6 : decode cX4_partOf 6 = .ok (.iload_n 1, 1) := by decide +kernel
theorem dX4_partOf_7 : decode cX4_partOf 7 = .ok (.imul, 1) := by decide +kernel
theorem dX4_partOf_8 : decode cX4_partOf 8 = .ok (.iload_n 2, 1) := by decide +kernel
theorem dX4_partOf_9 : decode cX4_partOf 9 = .ok (.iadd, 1) := by decide +kernel
theorem dX4_partOf_10 : decode cX4_partOf 10 = .ok (.iaload, 1) := by decide +kernel
theorem dX4_partOf_11 : decode cX4_partOf 11 = .ok (.ireturn, 1) := by decide +kernel
theorem dX4_lengthOf_0 : decode cX4_lengthOf 0 = .ok (.iconst 0, 1) := by decide +kernel
theorem dX4_lengthOf_1 : decode cX4_lengthOf 1 = .ok (.istore_n 2, 1) := by decide +kernel
theorem dX4_lengthOf_2 : decode cX4_lengthOf 2 = .ok (.iconst 0, 1) := by decide +kernel
theorem dX4_lengthOf_3 : decode cX4_lengthOf 3 = .ok (.istore_n 3, 1) := by decide +kernel
theorem dX4_lengthOf_4 : decode cX4_lengthOf 4 = .ok (.iload_n 3, 1) := by decide +kernel
theorem dX4_lengthOf_5 : decode cX4_lengthOf 5 = .ok (.bipush 6, 2) := by decide +kernel
theorem dX4_lengthOf_7 : decode cX4_lengthOf 7 = .ok (.if_icmp .ge 26, 3) := by decide +kernel
theorem dX4_lengthOf_10 : decode cX4_lengthOf 10 = .ok (.iload_n 2, 1) := by decide +kernel
theorem dX4_lengthOf_11 : decode cX4_lengthOf 11 = .ok (.aload_n 0, 1) := by decide +kernel
theorem dX4_lengthOf_12 : decode cX4_lengthOf 12 = .ok (.iload_n 1, 1) := by decide +kernel
theorem dX4_lengthOf_13 : decode cX4_lengthOf 13 = .ok (.iload_n 3, 1) := by decide +kernel
theorem dX4_lengthOf_14 : decode cX4_lengthOf 14 = .ok (.invokevirtual 91, 3) := by decide +kernel
theorem dX4_lengthOf_17 : decode cX4_lengthOf 17 = .ok (.ifCond .le 7, 3) := by decide +kernel
theorem dX4_lengthOf_20 : decode cX4_lengthOf 20 = .ok (.iconst 1, 1) := by decide +kernel
theorem dX4_lengthOf_21 : decode cX4_lengthOf 21 = .ok (.goto 4, 3) := by decide +kernel
theorem dX4_lengthOf_24 : decode cX4_lengthOf 24 = .ok (.iconst 0, 1) := by decide +kernel
theorem dX4_lengthOf_25 : decode cX4_lengthOf 25 = .ok (.iadd, 1) := by decide +kernel
theorem dX4_lengthOf_26 : decode cX4_lengthOf 26 = .ok (.istore_n 2, 1) := by decide +kernel
theorem dX4_lengthOf_27 : decode cX4_lengthOf 27 = .ok (.iinc 3 1, 3) := by decide +kernel
theorem dX4_lengthOf_30 : decode cX4_lengthOf 30 = .ok (.goto (-26), 3) := by decide +kernel
theorem dX4_lengthOf_33 : decode cX4_lengthOf 33 = .ok (.iload_n 2, 1) := by decide +kernel
theorem dX4_lengthOf_34 : decode cX4_lengthOf 34 = .ok (.ireturn, 1) := by decide +kernel
theorem dX4_multiply_0 : decode cX4_multiply 0 = .ok (.iconst 0, 1) := by decide +kernel
theorem dX4_multiply_1 : decode cX4_multiply 1 = .ok (.istore 7, 2) := by decide +kernel
theorem dX4_multiply_3 : decode cX4_multiply 3 = .ok (.iload 7, 2) := by decide +kernel
theorem dX4_multiply_5 : decode cX4_multiply 5 = .ok (.bipush 30, 2) := by decide +kernel
theorem dX4_multiply_7 : decode cX4_multiply 7 = .ok (.if_icmp .ge 179, 3) := by decide +kernel
theorem dX4_multiply_10 : decode cX4_multiply 10 = .ok (.iconst 1, 1) := by decide +kernel
theorem dX4_multiply_11 : decode cX4_multiply 11 = .ok (.istore 8, 2) := by decide +kernel
theorem dX4_multiply_13 : decode cX4_multiply 13 = .ok (.iconst 0, 1) := by decide +kernel
theorem dX4_multiply_14 : decode cX4_multiply 14 = .ok (.istore 9, 2) := by decide +kernel
theorem dX4_multiply_16 : decode cX4_multiply 16 = .ok (.iload 9, 2) := by decide +kernel
theorem dX4_multiply_18 : decode cX4_multiply 18 = .ok (.bipush 6, 2) := by decide +kernel
theorem dX4_multiply_20 : decode cX4_multiply 20 = .ok (.if_icmp .ge 24, 3) := by decide +kernel
theorem dX4_multiply_23 : decode cX4_multiply 23 = .ok (.iload 8, 2) := by decide +kernel
theorem dX4_multiply_25 : decode cX4_multiply 25 = .ok (.aload_n 0, 1) := by decide +kernel
theorem dX4_multiply_26 : decode cX4_multiply 26 = .ok (.iload 7, 2) := by decide +kernel
theorem dX4_multiply_28 : decode cX4_multiply 28 = .ok (.iload 9, 2) := by decide +kernel
theorem dX4_multiply_30 : decode cX4_multiply 30 = .ok (.invokevirtual 91, 3) := by decide +kernel
theorem dX4_multiply_33 : decode cX4_multiply 33 = .ok (.iconst 1, 1) := by decide +kernel
theorem dX4_multiply_34 : decode cX4_multiply 34 = .ok (.iadd, 1) := by decide +kernel
theorem dX4_multiply_35 : decode cX4_multiply 35 = .ok (.imul, 1) := by decide +kernel
theorem dX4_multiply_36 : decode cX4_multiply 36 = .ok (.istore 8, 2) := by decide +kernel
theorem dX4_multiply_38 : decode cX4_multiply 38 = .ok (.iinc 9 1, 3) := by decide +kernel
theorem dX4_multiply_41 : decode cX4_multiply 41 = .ok (.goto (-25), 3) := by decide +kernel
theorem dX4_multiply_44 : decode cX4_multiply 44 = .ok (.lconst 0, 1) := by decide +kernel
theorem dX4_multiply_45 : decode cX4_multiply 45 = .ok (.lstore 9, 2) := by decide +kernel
theorem dX4_multiply_47 : decode cX4_multiply 47 = .ok (.iconst 0, 1) := by decide +kernel
theorem dX4_multiply_48 : decode cX4_multiply 48 = .ok (.istore 11, 2) := by decide +kernel
theorem dX4_multiply_50 : decode cX4_multiply 50 = .ok (.iload 11, 2) := by decide +kernel
theorem dX4_multiply_52 : decode cX4_multiply 52 = .ok (.iload 8, 2) := by decide +kernel
theorem dX4_multiply_54 : decode cX4_multiply 54 = .ok (.if_icmp .ge 116, 3) := by decide +kernel
theorem dX4_multiply_57 : decode cX4_multiply 57 = .ok (.iconst 0, 1) := by decide +kernel
theorem dX4_multiply_58 : decode cX4_multiply 58 = .ok (.istore 12, 2) := by decide +kernel
theorem dX4_multiply_60 : decode cX4_multiply 60 = .ok (.iconst 0, 1) := by decide +kernel
theorem dX4_multiply_61 : decode cX4_multiply 61 = .ok (.istore 13, 2) := by decide +kernel
theorem dX4_multiply_63 : decode cX4_multiply 63 = .ok (.iload 11, 2) := by decide +kernel
theorem dX4_multiply_65 : decode cX4_multiply 65 = .ok (.istore 14, 2) := by decide +kernel
theorem dX4_multiply_67 : decode cX4_multiply 67 = .ok (.iconst 0, 1) := by decide +kernel
theorem dX4_multiply_68 : decode cX4_multiply 68 = .ok (.istore 15, 2) := by decide +kernel
theorem dX4_multiply_70 : decode cX4_multiply 70 = .ok (.iload 15, 2) := by decide +kernel
theorem dX4_multiply_72 : decode cX4_multiply 72 = .ok (.bipush 6, 2) := by decide +kernel
theorem dX4_multiply_74 : decode cX4_multiply 74 = .ok (.if_icmp .ge 61, 3) := by decide +kernel
theorem dX4_multiply_77 : decode cX4_multiply 77 = .ok (.aload_n 0, 1) := by decide +kernel
theorem dX4_multiply_78 : decode cX4_multiply 78 = .ok (.iload 7, 2) := by decide +kernel
theorem dX4_multiply_80 : decode cX4_multiply 80 = .ok (.iload 15, 2) := by decide +kernel
theorem dX4_multiply_82 : decode cX4_multiply 82 = .ok (.invokevirtual 91, 3) := by decide +kernel
theorem dX4_multiply_85 : decode cX4_multiply 85 = .ok (.istore 16, 2) := by decide +kernel
theorem dX4_multiply_87 : decode cX4_multiply 87 = .ok (.iload 12, 2) := by decide +kernel
theorem dX4_multiply_89 : decode cX4_multiply 89 = .ok (.iload 14, 2) := by decide +kernel
theorem dX4_multiply_91 : decode cX4_multiply 91 = .ok (.iload 16, 2) := by decide +kernel
theorem dX4_multiply_93 : decode cX4_multiply 93 = .ok (.iconst 1, 1) := by decide +kernel
theorem dX4_multiply_94 : decode cX4_multiply 94 = .ok (.iadd, 1) := by decide +kernel
theorem dX4_multiply_95 : decode cX4_multiply 95 = .ok (.irem, 1) := by decide +kernel
theorem dX4_multiply_96 : decode cX4_multiply 96 = .ok (.invokestatic 87, 3) := by decide +kernel
theorem dX4_multiply_99 : decode cX4_multiply 99 = .ok (.iadd, 1) := by decide +kernel
theorem dX4_multiply_100 : decode cX4_multiply 100 = .ok (.istore 12, 2) := by decide +kernel
theorem dX4_multiply_102 : decode cX4_multiply 102 = .ok (.iload 13, 2) := by decide +kernel
theorem dX4_multiply_104 : decode cX4_multiply 104 = .ok (.iload 16, 2) := by decide +kernel
theorem dX4_multiply_106 : decode cX4_multiply 106 = .ok (.iload 14, 2) := by decide +kernel
theorem dX4_multiply_108 : decode cX4_multiply 108 = .ok (.iload 16, 2) := by decide +kernel
theorem dX4_multiply_110 : decode cX4_multiply 110 = .ok (.iconst 1, 1) := by decide +kernel
theorem dX4_multiply_111 : decode cX4_multiply 111 = .ok (.iadd, 1) := by decide +kernel
theorem dX4_multiply_112 : decode cX4_multiply 112 = .ok (.irem, 1) := by decide +kernel
theorem dX4_multiply_113 : decode cX4_multiply 113 = .ok (.isub, 1) := by decide +kernel
theorem dX4_multiply_114 : decode cX4_multiply 114 = .ok (.invokestatic 87, 3) := by decide +kernel
theorem dX4_multiply_117 : decode cX4_multiply 117 = .ok (.iadd, 1) := by decide +kernel
theorem dX4_multiply_118 : decode cX4_multiply 118 = .ok (.istore 13, 2) := by decide +kernel
theorem dX4_multiply_120 : decode cX4_multiply 120 = .ok (.iload 14, 2) := by decide +kernel
theorem dX4_multiply_122 : decode cX4_multiply 122 = .ok (.iload 16, 2) := by decide +kernel
theorem dX4_multiply_124 : decode cX4_multiply 124 = .ok (.iconst 1, 1) := by decide +kernel
theorem dX4_multiply_125 : decode cX4_multiply 125 = .ok (.iadd, 1) := by decide +kernel
theorem dX4_multiply_126 : decode cX4_multiply 126 = .ok (.idiv, 1) := by decide +kernel
theorem dX4_multiply_127 : decode cX4_multiply 127 = .ok (.istore 14, 2) := by decide +kernel
theorem dX4_multiply_129 : decode cX4_multiply 129 = .ok (.iinc 15 1, 3) := by decide +kernel
theorem dX4_multiply_132 : decode cX4_multiply 132 = .ok (.goto (-62), 3) := by decide +kernel
theorem dX4_multiply_135 : decode cX4_multiply 135 = .ok (.lload 9, 2) := by decide +kernel
theorem dX4_multiply_137 : decode cX4_multiply 137 = .ok (.aload_n 1, 1) := by decide +kernel
theorem dX4_multiply_138 : decode cX4_multiply 138 = .ok (.iload_n 2, 1) := by decide +kernel
theorem dX4_multiply_139 : decode cX4_multiply 139 = .ok (.aload_n 0, 1) := by decide +kernel
theorem dX4_multiply_140 : decode cX4_multiply 140 = .ok (.getfield 16, 3) := by decide +kernel
theorem dX4_multiply_143 : decode cX4_multiply 143 = .ok (.iload 12, 2) := by decide +kernel
theorem dX4_multiply_145 : decode cX4_multiply 145 = .ok (.iaload, 1) := by decide +kernel
theorem dX4_multiply_146 : decode cX4_multiply 146 = .ok (.iadd, 1) := by decide +kernel
theorem dX4_multiply_147 : decode cX4_multiply 147 = .ok (.laload, 1) := by decide +kernel
theorem dX4_multiply_148 : decode cX4_multiply 148 = .ok (.aload_n 3, 1) := by decide +kernel
theorem dX4_multiply_149 : decode cX4_multiply 149 = .ok (.iload 4, 2) := by decide +kernel
theorem dX4_multiply_151 : decode cX4_multiply 151 = .ok (.aload_n 0, 1) := by decide +kernel
theorem dX4_multiply_152 : decode cX4_multiply 152 = .ok (.getfield 16, 3) := by decide +kernel
theorem dX4_multiply_155 : decode cX4_multiply 155 = .ok (.iload 13, 2) := by decide +kernel
theorem dX4_multiply_157 : decode cX4_multiply 157 = .ok (.iaload, 1) := by decide +kernel
theorem dX4_multiply_158 : decode cX4_multiply 158 = .ok (.iadd, 1) := by decide +kernel
theorem dX4_multiply_159 : decode cX4_multiply 159 = .ok (.laload, 1) := by decide +kernel
theorem dX4_multiply_160 : decode cX4_multiply 160 = .ok (.lmul, 1) := by decide +kernel
theorem dX4_multiply_161 : decode cX4_multiply 161 = .ok (.ladd, 1) := by decide +kernel
theorem dX4_multiply_162 : decode cX4_multiply 162 = .ok (.lstore 9, 2) := by decide +kernel
theorem dX4_multiply_164 : decode cX4_multiply 164 = .ok (.iinc 11 1, 3) := by decide +kernel
theorem dX4_multiply_167 : decode cX4_multiply 167 = .ok (.goto (-117), 3) := by decide +kernel
theorem dX4_multiply_170 : decode cX4_multiply 170 = .ok (.aload 5, 2) := by decide +kernel
theorem dX4_multiply_172 : decode cX4_multiply 172 = .ok (.iload 6, 2) := by decide +kernel
theorem dX4_multiply_174 : decode cX4_multiply 174 = .ok (.iload 7, 2) := by decide +kernel
theorem dX4_multiply_176 : decode cX4_multiply 176 = .ok (.iadd, 1) := by decide +kernel
theorem dX4_multiply_177 : decode cX4_multiply 177 = .ok (.lload 9, 2) := by decide +kernel
theorem dX4_multiply_179 : decode cX4_multiply 179 = .ok (.lastore, 1) := by decide +kernel
theorem dX4_multiply_180 : decode cX4_multiply 180 = .ok (.iinc 7 1, 3) := by decide +kernel
theorem dX4_multiply_183 : decode cX4_multiply 183 = .ok (.goto (-180), 3) := by decide +kernel
theorem dX4_multiply_186 : decode cX4_multiply 186 = .ok (.return_, 1) := by decide +kernel
theorem dX4_layProduct_0 : decode cX4_layProduct 0 = .ok (.aload_n 0, 1) := by decide +kernel
theorem dX4_layProduct_1 : decode cX4_layProduct 1 = .ok (.iload_n 2, 1) := by decide +kernel
theorem dX4_layProduct_2 : decode cX4_layProduct 2 = .ok (.invokevirtual 94, 3) := by decide +kernel
theorem dX4_layProduct_5 : decode cX4_layProduct 5 = .ok (.istore_n 3, 1) := by decide +kernel
theorem dX4_layProduct_6 : decode cX4_layProduct 6 = .ok (.iload_n 3, 1) := by decide +kernel
theorem dX4_layProduct_7 : decode cX4_layProduct 7 = .ok (.ifCond .ne 16, 3) := by decide +kernel
theorem dX4_layProduct_10 : decode cX4_layProduct 10 = .ok (.aload_n 0, 1) := by decide +kernel
theorem dX4_layProduct_11 : decode cX4_layProduct 11 = .ok (.getfield 19, 3) := by decide +kernel
theorem dX4_layProduct_14 : decode cX4_layProduct 14 = .ok (.iload_n 1, 1) := by decide +kernel
theorem dX4_layProduct_15 : decode cX4_layProduct 15 = .ok (.iload_n 2, 1) := by decide +kernel
theorem dX4_layProduct_16 : decode cX4_layProduct 16 = .ok (.iconst 0, 1) := by decide +kernel
theorem dX4_layProduct_17 : decode cX4_layProduct 17 = .ok (.invokestatic 75, 3) := by decide +kernel
theorem dX4_layProduct_20 : decode cX4_layProduct 20 = .ok (.lconst 1, 1) := by decide +kernel
theorem dX4_layProduct_21 : decode cX4_layProduct 21 = .ok (.lastore, 1) := by decide +kernel
theorem dX4_layProduct_22 : decode cX4_layProduct 22 = .ok (.return_, 1) := by decide +kernel
theorem dX4_layProduct_23 : decode cX4_layProduct 23 = .ok (.aload_n 0, 1) := by decide +kernel
theorem dX4_layProduct_24 : decode cX4_layProduct 24 = .ok (.iload_n 2, 1) := by decide +kernel
theorem dX4_layProduct_25 : decode cX4_layProduct 25 = .ok (.iload_n 3, 1) := by decide +kernel
theorem dX4_layProduct_26 : decode cX4_layProduct 26 = .ok (.iconst 1, 1) := by decide +kernel
theorem dX4_layProduct_27 : decode cX4_layProduct 27 = .ok (.isub, 1) := by decide +kernel
theorem dX4_layProduct_28 : decode cX4_layProduct 28 = .ok (.invokevirtual 91, 3) := by decide +kernel
theorem dX4_layProduct_31 : decode cX4_layProduct 31 = .ok (.istore 4, 2) := by decide +kernel
theorem dX4_layProduct_33 : decode cX4_layProduct 33 = .ok (.iconst 0, 1) := by decide +kernel
theorem dX4_layProduct_34 : decode cX4_layProduct 34 = .ok (.istore 5, 2) := by decide +kernel
theorem dX4_layProduct_36 : decode cX4_layProduct 36 = .ok (.iconst 0, 1) := by decide +kernel
theorem dX4_layProduct_37 : decode cX4_layProduct 37 = .ok (.istore 6, 2) := by decide +kernel
theorem dX4_layProduct_39 : decode cX4_layProduct 39 = .ok (.iload 6, 2) := by decide +kernel
theorem dX4_layProduct_41 : decode cX4_layProduct 41 = .ok (.iload_n 3, 1) := by decide +kernel
theorem dX4_layProduct_42 : decode cX4_layProduct 42 = .ok (.iconst 1, 1) := by decide +kernel
theorem dX4_layProduct_43 : decode cX4_layProduct 43 = .ok (.isub, 1) := by decide +kernel
theorem dX4_layProduct_44 : decode cX4_layProduct 44 = .ok (.if_icmp .ge 24, 3) := by decide +kernel
theorem dX4_layProduct_47 : decode cX4_layProduct 47 = .ok (.iload 5, 2) := by decide +kernel
theorem dX4_layProduct_49 : decode cX4_layProduct 49 = .ok (.aload_n 0, 1) := by decide +kernel
theorem dX4_layProduct_50 : decode cX4_layProduct 50 = .ok (.iload_n 2, 1) := by decide +kernel
theorem dX4_layProduct_51 : decode cX4_layProduct 51 = .ok (.iload 6, 2) := by decide +kernel
theorem dX4_layProduct_53 : decode cX4_layProduct 53 = .ok (.invokevirtual 91, 3) := by decide +kernel
theorem dX4_layProduct_56 : decode cX4_layProduct 56 = .ok (.invokestatic 87, 3) := by decide +kernel
theorem dX4_layProduct_59 : decode cX4_layProduct 59 = .ok (.iadd, 1) := by decide +kernel
theorem dX4_layProduct_60 : decode cX4_layProduct 60 = .ok (.istore 5, 2) := by decide +kernel
theorem dX4_layProduct_62 : decode cX4_layProduct 62 = .ok (.iinc 6 1, 3) := by decide +kernel
theorem dX4_layProduct_65 : decode cX4_layProduct 65 = .ok (.goto (-26), 3) := by decide +kernel
theorem dX4_layProduct_68 : decode cX4_layProduct 68 = .ok (.iconst 0, 1) := by decide +kernel
theorem dX4_layProduct_69 : decode cX4_layProduct 69 = .ok (.istore 6, 2) := by decide +kernel
theorem dX4_layProduct_71 : decode cX4_layProduct 71 = .ok (.iload 6, 2) := by decide +kernel
theorem dX4_layProduct_73 : decode cX4_layProduct 73 = .ok (.bipush 30, 2) := by decide +kernel
theorem dX4_layProduct_75 : decode cX4_layProduct 75 = .ok (.if_icmp .ge 81, 3) := by decide +kernel
theorem dX4_layProduct_78 : decode cX4_layProduct 78 = .ok (.aload_n 0, 1) := by decide +kernel
theorem dX4_layProduct_79 : decode cX4_layProduct 79 = .ok (.getfield 13, 3) := by decide +kernel
theorem dX4_layProduct_82 : decode cX4_layProduct 82 = .ok (.iload 6, 2) := by decide +kernel
theorem dX4_layProduct_84 : decode cX4_layProduct 84 = .ok (.iaload, 1) := by decide +kernel
theorem dX4_layProduct_85 : decode cX4_layProduct 85 = .ok (.iload 4, 2) := by decide +kernel
theorem dX4_layProduct_87 : decode cX4_layProduct 87 = .ok (.if_icmp .ne 43, 3) := by decide +kernel
theorem dX4_layProduct_90 : decode cX4_layProduct 90 = .ok (.iload_n 1, 1) := by decide +kernel
theorem dX4_layProduct_91 : decode cX4_layProduct 91 = .ok (.iconst 2, 1) := by decide +kernel
theorem dX4_layProduct_92 : decode cX4_layProduct 92 = .ok (.if_icmp .eq 34, 3) := by decide +kernel
theorem dX4_layProduct_95 : decode cX4_layProduct 95 = .ok (.iload_n 1, 1) := by decide +kernel
theorem dX4_layProduct_96 : decode cX4_layProduct 96 = .ok (.iconst 1, 1) := by decide +kernel
theorem dX4_layProduct_97 : decode cX4_layProduct 97 = .ok (.if_icmp .ne 14, 3) := by decide +kernel
theorem dX4_layProduct_100 : decode cX4_layProduct 100 = .ok (.aload_n 0, 1) := by decide +kernel
theorem dX4_layProduct_101 : decode cX4_layProduct 101 = .ok (.iload 6, 2) := by decide +kernel
theorem dX4_layProduct_103 : decode cX4_layProduct 103 = .ok (.iconst 0, 1) := by decide +kernel
theorem dX4_layProduct_104 : decode cX4_layProduct 104 = .ok (.invokevirtual 91, 3) := by decide +kernel
theorem dX4_layProduct_107 : decode cX4_layProduct 107 = .ok (.iconst 1, 1) := by decide +kernel
theorem dX4_layProduct_108 : decode cX4_layProduct 108 = .ok (.if_icmp .eq 18, 3) := by decide +kernel
theorem dX4_layProduct_111 : decode cX4_layProduct 111 = .ok (.iload_n 1, 1) := by decide +kernel
theorem dX4_layProduct_112 : decode cX4_layProduct 112 = .ok (.iconst 3, 1) := by decide +kernel
theorem dX4_layProduct_113 : decode cX4_layProduct 113 = .ok (.if_icmp .ne 17, 3) := by decide +kernel
theorem dX4_layProduct_116 : decode cX4_layProduct 116 = .ok (.aload_n 0, 1) := by decide +kernel
theorem dX4_layProduct_117 : decode cX4_layProduct 117 = .ok (.iload 6, 2) := by decide +kernel
theorem dX4_layProduct_119 : decode cX4_layProduct 119 = .ok (.invokevirtual 94, 3) := by decide +kernel
theorem dX4_layProduct_122 : decode cX4_layProduct 122 = .ok (.iconst 1, 1) := by decide +kernel
theorem dX4_layProduct_123 : decode cX4_layProduct 123 = .ok (.if_icmp .ne 7, 3) := by decide +kernel
theorem dX4_layProduct_126 : decode cX4_layProduct 126 = .ok (.iconst 1, 1) := by decide +kernel
theorem dX4_layProduct_127 : decode cX4_layProduct 127 = .ok (.goto 4, 3) := by decide +kernel
theorem dX4_layProduct_130 : decode cX4_layProduct 130 = .ok (.iconst 0, 1) := by decide +kernel
theorem dX4_layProduct_131 : decode cX4_layProduct 131 = .ok (.istore 7, 2) := by decide +kernel
theorem dX4_layProduct_133 : decode cX4_layProduct 133 = .ok (.aload_n 0, 1) := by decide +kernel
theorem dX4_layProduct_134 : decode cX4_layProduct 134 = .ok (.getfield 26, 3) := by decide +kernel
theorem dX4_layProduct_137 : decode cX4_layProduct 137 = .ok (.iload 6, 2) := by decide +kernel
theorem dX4_layProduct_139 : decode cX4_layProduct 139 = .ok (.iload 7, 2) := by decide +kernel
theorem dX4_layProduct_141 : decode cX4_layProduct 141 = .ok (.ifCond .eq 7, 3) := by decide +kernel
theorem dX4_layProduct_144 : decode cX4_layProduct 144 = .ok (.lconst 1, 1) := by decide +kernel
theorem dX4_layProduct_145 : decode cX4_layProduct 145 = .ok (.goto 4, 3) := by decide +kernel
theorem dX4_layProduct_148 : decode cX4_layProduct 148 = .ok (.lconst 0, 1) := by decide +kernel
theorem dX4_layProduct_149 : decode cX4_layProduct 149 = .ok (.lastore, 1) := by decide +kernel
theorem dX4_layProduct_150 : decode cX4_layProduct 150 = .ok (.iinc 6 1, 3) := by decide +kernel
theorem dX4_layProduct_153 : decode cX4_layProduct 153 = .ok (.goto (-82), 3) := by decide +kernel
theorem dX4_layProduct_156 : decode cX4_layProduct 156 = .ok (.aload_n 0, 1) := by decide +kernel
theorem dX4_layProduct_157 : decode cX4_layProduct 157 = .ok (.aload_n 0, 1) := by decide +kernel
theorem dX4_layProduct_158 : decode cX4_layProduct 158 = .ok (.getfield 19, 3) := by decide +kernel
theorem dX4_layProduct_161 : decode cX4_layProduct 161 = .ok (.iload_n 1, 1) := by decide +kernel
theorem dX4_layProduct_162 : decode cX4_layProduct 162 = .ok (.aload_n 0, 1) := by decide +kernel
theorem dX4_layProduct_163 : decode cX4_layProduct 163 = .ok (.getfield 16, 3) := by decide +kernel
theorem dX4_layProduct_166 : decode cX4_layProduct 166 = .ok (.iload 5, 2) := by decide +kernel
theorem dX4_layProduct_168 : decode cX4_layProduct 168 = .ok (.iaload, 1) := by decide +kernel
theorem dX4_layProduct_169 : decode cX4_layProduct 169 = .ok (.iconst 0, 1) := by decide +kernel
theorem dX4_layProduct_170 : decode cX4_layProduct 170 = .ok (.invokestatic 75, 3) := by decide +kernel
theorem dX4_layProduct_173 : decode cX4_layProduct 173 = .ok (.aload_n 0, 1) := by decide +kernel
theorem dX4_layProduct_174 : decode cX4_layProduct 174 = .ok (.getfield 26, 3) := by decide +kernel
theorem dX4_layProduct_177 : decode cX4_layProduct 177 = .ok (.iconst 0, 1) := by decide +kernel
theorem dX4_layProduct_178 : decode cX4_layProduct 178 = .ok (.aload_n 0, 1) := by decide +kernel
theorem dX4_layProduct_179 : decode cX4_layProduct 179 = .ok (.getfield 19, 3) := by decide +kernel
theorem dX4_layProduct_182 : decode cX4_layProduct 182 = .ok (.iload_n 1, 1) := by decide +kernel
theorem dX4_layProduct_183 : decode cX4_layProduct 183 = .ok (.iload_n 2, 1) := by decide +kernel
theorem dX4_layProduct_184 : decode cX4_layProduct 184 = .ok (.iconst 0, 1) := by decide +kernel
theorem dX4_layProduct_185 : decode cX4_layProduct 185 = .ok (.invokestatic 75, 3) := by decide +kernel
theorem dX4_layProduct_188 : decode cX4_layProduct 188 = .ok (.invokevirtual 97, 3) := by decide +kernel
theorem dX4_layProduct_191 : decode cX4_layProduct 191 = .ok (.return_, 1) := by decide +kernel
theorem dX4_in_0 : decode cX4_in 0 = .ok (.iload_n 0, 1) := by decide +kernel
theorem dX4_in_1 : decode cX4_in 1 = .ok (.iload_n 1, 1) := by decide +kernel
theorem dX4_in_2 : decode cX4_in 2 = .ok (.if_icmp .lt 12, 3) := by decide +kernel
theorem dX4_in_5 : decode cX4_in 5 = .ok (.iload_n 0, 1) := by decide +kernel
theorem dX4_in_6 : decode cX4_in 6 = .ok (.iload_n 2, 1) := by decide +kernel
theorem dX4_in_7 : decode cX4_in 7 = .ok (.if_icmp .gt 7, 3) := by decide +kernel
theorem dX4_in_10 : decode cX4_in 10 = .ok (.iconst 1, 1) := by decide +kernel
theorem dX4_in_11 : decode cX4_in 11 = .ok (.goto 4, 3) := by decide +kernel
theorem dX4_in_14 : decode cX4_in 14 = .ok (.iconst 0, 1) := by decide +kernel
theorem dX4_in_15 : decode cX4_in 15 = .ok (.ireturn, 1) := by decide +kernel
theorem dX4_isPartition_0 : decode cX4_isPartition 0 = .ok (.iload_n 0, 1) := by decide +kernel
theorem dX4_isPartition_1 : decode cX4_isPartition 1 = .ok (.iconst 0, 1) := by decide +kernel
theorem dX4_isPartition_2 : decode cX4_isPartition 2 = .ok (.bipush 29, 2) := by decide +kernel
theorem dX4_isPartition_4 : decode cX4_isPartition 4 = .ok (.invokestatic 101, 3) := by decide +kernel
theorem dX4_isPartition_7 : decode cX4_isPartition 7 = .ok (.ireturn, 1) := by decide +kernel
theorem dX4_isSlot_0 : decode cX4_isSlot 0 = .ok (.iload_n 0, 1) := by decide +kernel
theorem dX4_isSlot_1 : decode cX4_isSlot 1 = .ok (.iconst 0, 1) := by decide +kernel
theorem dX4_isSlot_2 : decode cX4_isSlot 2 = .ok (.bipush 7, 2) := by decide +kernel
theorem dX4_isSlot_4 : decode cX4_isSlot 4 = .ok (.invokestatic 101, 3) := by decide +kernel
theorem dX4_isSlot_7 : decode cX4_isSlot 7 = .ok (.ireturn, 1) := by decide +kernel
theorem dX4_isFilled_0 : decode cX4_isFilled 0 = .ok (.iload_n 3, 1) := by decide +kernel
theorem dX4_isFilled_1 : decode cX4_isFilled 1 = .ok (.istore 5, 2) := by decide +kernel
theorem dX4_isFilled_3 : decode cX4_isFilled 3 = .ok (.iconst 0, 1) := by decide +kernel
theorem dX4_isFilled_4 : decode cX4_isFilled 4 = .ok (.istore 6, 2) := by decide +kernel
theorem dX4_isFilled_6 : decode cX4_isFilled 6 = .ok (.iload 6, 2) := by decide +kernel
theorem dX4_isFilled_8 : decode cX4_isFilled 8 = .ok (.bipush 6, 2) := by decide +kernel
theorem dX4_isFilled_10 : decode cX4_isFilled 10 = .ok (.if_icmp .ge 17, 3) := by decide +kernel
theorem dX4_isFilled_13 : decode cX4_isFilled 13 = .ok (.aload_n 0, 1) := by decide +kernel
theorem dX4_isFilled_14 : decode cX4_isFilled 14 = .ok (.getfield 32, 3) := by decide +kernel
theorem dX4_isFilled_17 : decode cX4_isFilled 17 = .ok (.iload 6, 2) := by decide +kernel
theorem dX4_isFilled_19 : decode cX4_isFilled 19 = .ok (.iconst 0, 1) := by decide +kernel
theorem dX4_isFilled_20 : decode cX4_isFilled 20 = .ok (.iastore, 1) := by decide +kernel
theorem dX4_isFilled_21 : decode cX4_isFilled 21 = .ok (.iinc 6 1, 3) := by decide +kernel
theorem dX4_isFilled_24 : decode cX4_isFilled 24 = .ok (.goto (-18), 3) := by decide +kernel
theorem dX4_isFilled_27 : decode cX4_isFilled 27 = .ok (.iconst 0, 1) := by decide +kernel
theorem dX4_isFilled_28 : decode cX4_isFilled 28 = .ok (.istore 6, 2) := by decide +kernel
theorem dX4_isFilled_30 : decode cX4_isFilled 30 = .ok (.iload 6, 2) := by decide +kernel
theorem dX4_isFilled_32 : decode cX4_isFilled 32 = .ok (.aload_n 0, 1) := by decide +kernel
theorem dX4_isFilled_33 : decode cX4_isFilled 33 = .ok (.getfield 13, 3) := by decide +kernel
theorem dX4_isFilled_36 : decode cX4_isFilled 36 = .ok (.iload_n 1, 1) := by decide +kernel
theorem dX4_isFilled_37 : decode cX4_isFilled 37 = .ok (.iaload, 1) := by decide +kernel
theorem dX4_isFilled_38 : decode cX4_isFilled 38 = .ok (.if_icmp .ge 44, 3) := by decide +kernel
theorem dX4_isFilled_41 : decode cX4_isFilled 41 = .ok (.aload_n 0, 1) := by decide +kernel
theorem dX4_isFilled_42 : decode cX4_isFilled 42 = .ok (.getfield 29, 3) := by decide +kernel
theorem dX4_isFilled_45 : decode cX4_isFilled 45 = .ok (.iload 6, 2) := by decide +kernel
theorem dX4_isFilled_47 : decode cX4_isFilled 47 = .ok (.iload 5, 2) := by decide +kernel
theorem dX4_isFilled_49 : decode cX4_isFilled 49 = .ok (.iload 4, 2) := by decide +kernel
theorem dX4_isFilled_51 : decode cX4_isFilled 51 = .ok (.irem, 1) := by decide +kernel
theorem dX4_isFilled_52 : decode cX4_isFilled 52 = .ok (.iastore, 1) := by decide +kernel
theorem dX4_isFilled_53 : decode cX4_isFilled 53 = .ok (.aload_n 0, 1) := by decide +kernel
theorem dX4_isFilled_54 : decode cX4_isFilled 54 = .ok (.getfield 32, 3) := by decide +kernel
theorem dX4_isFilled_57 : decode cX4_isFilled 57 = .ok (.aload_n 0, 1) := by decide +kernel
theorem dX4_isFilled_58 : decode cX4_isFilled 58 = .ok (.getfield 29, 3) := by decide +kernel
theorem dX4_isFilled_61 : decode cX4_isFilled 61 = .ok (.iload 6, 2) := by decide +kernel
theorem dX4_isFilled_63 : decode cX4_isFilled 63 = .ok (.iaload, 1) := by decide +kernel
theorem dX4_isFilled_64 : decode cX4_isFilled 64 = .ok (.dup2, 1) := by decide +kernel
theorem dX4_isFilled_65 : decode cX4_isFilled 65 = .ok (.iaload, 1) := by decide +kernel
theorem dX4_isFilled_66 : decode cX4_isFilled 66 = .ok (.iconst 1, 1) := by decide +kernel
theorem dX4_isFilled_67 : decode cX4_isFilled 67 = .ok (.iadd, 1) := by decide +kernel
theorem dX4_isFilled_68 : decode cX4_isFilled 68 = .ok (.iastore, 1) := by decide +kernel
theorem dX4_isFilled_69 : decode cX4_isFilled 69 = .ok (.iload 5, 2) := by decide +kernel
theorem dX4_isFilled_71 : decode cX4_isFilled 71 = .ok (.iload 4, 2) := by decide +kernel
theorem dX4_isFilled_73 : decode cX4_isFilled 73 = .ok (.idiv, 1) := by decide +kernel
theorem dX4_isFilled_74 : decode cX4_isFilled 74 = .ok (.istore 5, 2) := by decide +kernel
theorem dX4_isFilled_76 : decode cX4_isFilled 76 = .ok (.iinc 6 1, 3) := by decide +kernel
theorem dX4_isFilled_79 : decode cX4_isFilled 79 = .ok (.goto (-49), 3) := by decide +kernel
theorem dX4_isFilled_82 : decode cX4_isFilled 82 = .ok (.iconst 0, 1) := by decide +kernel
theorem dX4_isFilled_83 : decode cX4_isFilled 83 = .ok (.istore 6, 2) := by decide +kernel
theorem dX4_isFilled_85 : decode cX4_isFilled 85 = .ok (.iload 6, 2) := by decide +kernel
theorem dX4_isFilled_87 : decode cX4_isFilled 87 = .ok (.bipush 6, 2) := by decide +kernel
theorem dX4_isFilled_89 : decode cX4_isFilled 89 = .ok (.if_icmp .ge 28, 3) := by decide +kernel
theorem dX4_isFilled_92 : decode cX4_isFilled 92 = .ok (.aload_n 0, 1) := by decide +kernel
theorem dX4_isFilled_93 : decode cX4_isFilled 93 = .ok (.getfield 32, 3) := by decide +kernel
theorem dX4_isFilled_96 : decode cX4_isFilled 96 = .ok (.iload 6, 2) := by decide +kernel
theorem dX4_isFilled_98 : decode cX4_isFilled 98 = .ok (.iaload, 1) := by decide +kernel
theorem dX4_isFilled_99 : decode cX4_isFilled 99 = .ok (.aload_n 0, 1) := by decide +kernel
theorem dX4_isFilled_100 : decode cX4_isFilled 100 = .ok (.iload_n 2, 1) := by decide +kernel
theorem dX4_isFilled_101 : decode cX4_isFilled 101 = .ok (.iload 6, 2) := by decide +kernel
theorem dX4_isFilled_103 : decode cX4_isFilled 103 = .ok (.invokevirtual 91, 3) := by decide +kernel
theorem dX4_isFilled_106 : decode cX4_isFilled 106 = .ok (.if_icmp .eq 5, 3) := by decide +kernel
theorem dX4_isFilled_109 : decode cX4_isFilled 109 = .ok (.iconst 0, 1) := by decide +kernel
theorem dX4_isFilled_110 : decode cX4_isFilled 110 = .ok (.ireturn, 1) := by decide +kernel
theorem dX4_isFilled_111 : decode cX4_isFilled 111 = .ok (.iinc 6 1, 3) := by decide +kernel
theorem dX4_isFilled_114 : decode cX4_isFilled 114 = .ok (.goto (-29), 3) := by decide +kernel
theorem dX4_isFilled_117 : decode cX4_isFilled 117 = .ok (.iconst 0, 1) := by decide +kernel
theorem dX4_isFilled_118 : decode cX4_isFilled 118 = .ok (.istore 6, 2) := by decide +kernel
theorem dX4_isFilled_120 : decode cX4_isFilled 120 = .ok (.iconst 0, 1) := by decide +kernel
theorem dX4_isFilled_121 : decode cX4_isFilled 121 = .ok (.istore 7, 2) := by decide +kernel
theorem dX4_isFilled_123 : decode cX4_isFilled 123 = .ok (.iconst 0, 1) := by decide +kernel
theorem dX4_isFilled_124 : decode cX4_isFilled 124 = .ok (.istore 8, 2) := by decide +kernel
theorem dX4_isFilled_126 : decode cX4_isFilled 126 = .ok (.iload 8, 2) := by decide +kernel
theorem dX4_isFilled_128 : decode cX4_isFilled 128 = .ok (.bipush 6, 2) := by decide +kernel
theorem dX4_isFilled_130 : decode cX4_isFilled 130 = .ok (.if_icmp .ge 106, 3) := by decide +kernel
theorem dX4_isFilled_133 : decode cX4_isFilled 133 = .ok (.iconst 0, 1) := by decide +kernel
theorem dX4_isFilled_134 : decode cX4_isFilled 134 = .ok (.istore 9, 2) := by decide +kernel
theorem dX4_isFilled_136 : decode cX4_isFilled 136 = .ok (.iload 9, 2) := by decide +kernel
theorem dX4_isFilled_138 : decode cX4_isFilled 138 = .ok (.aload_n 0, 1) := by decide +kernel
theorem dX4_isFilled_139 : decode cX4_isFilled 139 = .ok (.iload_n 1, 1) := by decide +kernel
theorem dX4_isFilled_140 : decode cX4_isFilled 140 = .ok (.iload 8, 2) := by decide +kernel
theorem dX4_isFilled_142 : decode cX4_isFilled 142 = .ok (.invokevirtual 91, 3) := by decide +kernel
theorem dX4_isFilled_145 : decode cX4_isFilled 145 = .ok (.if_icmp .ge 69, 3) := by decide +kernel
theorem dX4_isFilled_148 : decode cX4_isFilled 148 = .ok (.iload 9, 2) := by decide +kernel
theorem dX4_isFilled_150 : decode cX4_isFilled 150 = .ok (.ifCond .le 28, 3) := by decide +kernel
theorem dX4_isFilled_153 : decode cX4_isFilled 153 = .ok (.aload_n 0, 1) := by decide +kernel
theorem dX4_isFilled_154 : decode cX4_isFilled 154 = .ok (.getfield 29, 3) := by decide +kernel
theorem dX4_isFilled_157 : decode cX4_isFilled 157 = .ok (.iload 6, 2) := by decide +kernel
theorem dX4_isFilled_159 : decode cX4_isFilled 159 = .ok (.iload 9, 2) := by decide +kernel
theorem dX4_isFilled_161 : decode cX4_isFilled 161 = .ok (.iadd, 1) := by decide +kernel
theorem dX4_isFilled_162 : decode cX4_isFilled 162 = .ok (.iaload, 1) := by decide +kernel
theorem dX4_isFilled_163 : decode cX4_isFilled 163 = .ok (.aload_n 0, 1) := by decide +kernel
theorem dX4_isFilled_164 : decode cX4_isFilled 164 = .ok (.getfield 29, 3) := by decide +kernel
theorem dX4_isFilled_167 : decode cX4_isFilled 167 = .ok (.iload 6, 2) := by decide +kernel
theorem dX4_isFilled_169 : decode cX4_isFilled 169 = .ok (.iload 9, 2) := by decide +kernel
theorem dX4_isFilled_171 : decode cX4_isFilled 171 = .ok (.iadd, 1) := by decide +kernel
theorem dX4_isFilled_172 : decode cX4_isFilled 172 = .ok (.iconst 1, 1) := by decide +kernel
theorem dX4_isFilled_173 : decode cX4_isFilled 173 = .ok (.isub, 1) := by decide +kernel
theorem dX4_isFilled_174 : decode cX4_isFilled 174 = .ok (.iaload, 1) := by decide +kernel
theorem dX4_isFilled_175 : decode cX4_isFilled 175 = .ok (.if_icmp .lt 31, 3) := by decide +kernel
theorem dX4_isFilled_178 : decode cX4_isFilled 178 = .ok (.iload 8, 2) := by decide +kernel
theorem dX4_isFilled_180 : decode cX4_isFilled 180 = .ok (.ifCond .le 28, 3) := by decide +kernel
theorem dX4_isFilled_183 : decode cX4_isFilled 183 = .ok (.aload_n 0, 1) := by decide +kernel
theorem dX4_isFilled_184 : decode cX4_isFilled 184 = .ok (.getfield 29, 3) := by decide +kernel
theorem dX4_isFilled_187 : decode cX4_isFilled 187 = .ok (.iload 6, 2) := by decide +kernel
theorem dX4_isFilled_189 : decode cX4_isFilled 189 = .ok (.iload 9, 2) := by decide +kernel
theorem dX4_isFilled_191 : decode cX4_isFilled 191 = .ok (.iadd, 1) := by decide +kernel
theorem dX4_isFilled_192 : decode cX4_isFilled 192 = .ok (.iaload, 1) := by decide +kernel
theorem dX4_isFilled_193 : decode cX4_isFilled 193 = .ok (.aload_n 0, 1) := by decide +kernel
theorem dX4_isFilled_194 : decode cX4_isFilled 194 = .ok (.getfield 29, 3) := by decide +kernel
theorem dX4_isFilled_197 : decode cX4_isFilled 197 = .ok (.iload 7, 2) := by decide +kernel
theorem dX4_isFilled_199 : decode cX4_isFilled 199 = .ok (.iload 9, 2) := by decide +kernel
theorem dX4_isFilled_201 : decode cX4_isFilled 201 = .ok (.iadd, 1) := by decide +kernel
theorem dX4_isFilled_202 : decode cX4_isFilled 202 = .ok (.iaload, 1) := by decide +kernel
theorem dX4_isFilled_203 : decode cX4_isFilled 203 = .ok (.if_icmp .gt 5, 3) := by decide +kernel
theorem dX4_isFilled_206 : decode cX4_isFilled 206 = .ok (.iconst 0, 1) := by decide +kernel
theorem dX4_isFilled_207 : decode cX4_isFilled 207 = .ok (.ireturn, 1) := by decide +kernel
theorem dX4_isFilled_208 : decode cX4_isFilled 208 = .ok (.iinc 9 1, 3) := by decide +kernel
theorem dX4_isFilled_211 : decode cX4_isFilled 211 = .ok (.goto (-75), 3) := by decide +kernel
theorem dX4_isFilled_214 : decode cX4_isFilled 214 = .ok (.iload 6, 2) := by decide +kernel
theorem dX4_isFilled_216 : decode cX4_isFilled 216 = .ok (.istore 7, 2) := by decide +kernel
theorem dX4_isFilled_218 : decode cX4_isFilled 218 = .ok (.iload 6, 2) := by decide +kernel
theorem dX4_isFilled_220 : decode cX4_isFilled 220 = .ok (.aload_n 0, 1) := by decide +kernel
theorem dX4_isFilled_221 : decode cX4_isFilled 221 = .ok (.iload_n 1, 1) := by decide +kernel
theorem dX4_isFilled_222 : decode cX4_isFilled 222 = .ok (.iload 8, 2) := by decide +kernel
theorem dX4_isFilled_224 : decode cX4_isFilled 224 = .ok (.invokevirtual 91, 3) := by decide +kernel
theorem dX4_isFilled_227 : decode cX4_isFilled 227 = .ok (.iadd, 1) := by decide +kernel
theorem dX4_isFilled_228 : decode cX4_isFilled 228 = .ok (.istore 6, 2) := by decide +kernel
theorem dX4_isFilled_230 : decode cX4_isFilled 230 = .ok (.iinc 8 1, 3) := by decide +kernel
theorem dX4_isFilled_233 : decode cX4_isFilled 233 = .ok (.goto (-107), 3) := by decide +kernel
theorem dX4_isFilled_236 : decode cX4_isFilled 236 = .ok (.iconst 1, 1) := by decide +kernel
theorem dX4_isFilled_237 : decode cX4_isFilled 237 = .ok (.ireturn, 1) := by decide +kernel
theorem dX4_fillings_0 : decode cX4_fillings 0 = .ok (.aload_n 0, 1) := by decide +kernel
theorem dX4_fillings_1 : decode cX4_fillings 1 = .ok (.getfield 13, 3) := by decide +kernel
theorem dX4_fillings_4 : decode cX4_fillings 4 = .ok (.iload_n 1, 1) := by decide +kernel
theorem dX4_fillings_5 : decode cX4_fillings 5 = .ok (.iaload, 1) := by decide +kernel
theorem dX4_fillings_6 : decode cX4_fillings 6 = .ok (.aload_n 0, 1) := by decide +kernel
theorem dX4_fillings_7 : decode cX4_fillings 7 = .ok (.getfield 13, 3) := by decide +kernel
theorem dX4_fillings_10 : decode cX4_fillings 10 = .ok (.iload_n 2, 1) := by decide +kernel
theorem dX4_fillings_11 : decode cX4_fillings 11 = .ok (.iaload, 1) := by decide +kernel
theorem dX4_fillings_12 : decode cX4_fillings 12 = .ok (.if_icmp .eq 5, 3) := by decide +kernel
theorem dX4_fillings_15 : decode cX4_fillings 15 = .ok (.iconst 0, 1) := by decide +kernel
theorem dX4_fillings_16 : decode cX4_fillings 16 = .ok (.ireturn, 1) := by decide +kernel
theorem dX4_fillings_17 : decode cX4_fillings 17 = .ok (.aload_n 0, 1) := by decide +kernel
theorem dX4_fillings_18 : decode cX4_fillings 18 = .ok (.iload_n 2, 1) := by decide +kernel
theorem dX4_fillings_19 : decode cX4_fillings 19 = .ok (.invokevirtual 94, 3) := by decide +kernel
theorem dX4_fillings_22 : decode cX4_fillings 22 = .ok (.istore_n 3, 1) := by decide +kernel
theorem dX4_fillings_23 : decode cX4_fillings 23 = .ok (.iconst 1, 1) := by decide +kernel
theorem dX4_fillings_24 : decode cX4_fillings 24 = .ok (.istore 4, 2) := by decide +kernel
theorem dX4_fillings_26 : decode cX4_fillings 26 = .ok (.iconst 0, 1) := by decide +kernel
theorem dX4_fillings_27 : decode cX4_fillings 27 = .ok (.istore 5, 2) := by decide +kernel
theorem dX4_fillings_29 : decode cX4_fillings 29 = .ok (.iload 5, 2) := by decide +kernel
theorem dX4_fillings_31 : decode cX4_fillings 31 = .ok (.aload_n 0, 1) := by decide +kernel
theorem dX4_fillings_32 : decode cX4_fillings 32 = .ok (.getfield 13, 3) := by decide +kernel
theorem dX4_fillings_35 : decode cX4_fillings 35 = .ok (.iload_n 1, 1) := by decide +kernel
theorem dX4_fillings_36 : decode cX4_fillings 36 = .ok (.iaload, 1) := by decide +kernel
theorem dX4_fillings_37 : decode cX4_fillings 37 = .ok (.if_icmp .ge 15, 3) := by decide +kernel
theorem dX4_fillings_40 : decode cX4_fillings 40 = .ok (.iload 4, 2) := by decide +kernel
theorem dX4_fillings_42 : decode cX4_fillings 42 = .ok (.iload_n 3, 1) := by decide +kernel
theorem dX4_fillings_43 : decode cX4_fillings 43 = .ok (.imul, 1) := by decide +kernel
theorem dX4_fillings_44 : decode cX4_fillings 44 = .ok (.istore 4, 2) := by decide +kernel
theorem dX4_fillings_46 : decode cX4_fillings 46 = .ok (.iinc 5 1, 3) := by decide +kernel
theorem dX4_fillings_49 : decode cX4_fillings 49 = .ok (.goto (-20), 3) := by decide +kernel
theorem dX4_fillings_52 : decode cX4_fillings 52 = .ok (.iconst 0, 1) := by decide +kernel
theorem dX4_fillings_53 : decode cX4_fillings 53 = .ok (.istore 5, 2) := by decide +kernel
theorem dX4_fillings_55 : decode cX4_fillings 55 = .ok (.iconst 0, 1) := by decide +kernel
theorem dX4_fillings_56 : decode cX4_fillings 56 = .ok (.istore 6, 2) := by decide +kernel
theorem dX4_fillings_58 : decode cX4_fillings 58 = .ok (.iload 6, 2) := by decide +kernel
theorem dX4_fillings_60 : decode cX4_fillings 60 = .ok (.iload 4, 2) := by decide +kernel
theorem dX4_fillings_62 : decode cX4_fillings 62 = .ok (.if_icmp .ge 31, 3) := by decide +kernel
theorem dX4_fillings_65 : decode cX4_fillings 65 = .ok (.iload 5, 2) := by decide +kernel
theorem dX4_fillings_67 : decode cX4_fillings 67 = .ok (.aload_n 0, 1) := by decide +kernel
theorem dX4_fillings_68 : decode cX4_fillings 68 = .ok (.iload_n 1, 1) := by decide +kernel
theorem dX4_fillings_69 : decode cX4_fillings 69 = .ok (.iload_n 2, 1) := by decide +kernel
theorem dX4_fillings_70 : decode cX4_fillings 70 = .ok (.iload 6, 2) := by decide +kernel
theorem dX4_fillings_72 : decode cX4_fillings 72 = .ok (.iload_n 3, 1) := by decide +kernel
theorem dX4_fillings_73 : decode cX4_fillings 73 = .ok (.invokevirtual 105, 3) := by decide +kernel
theorem dX4_fillings_76 : decode cX4_fillings 76 = .ok (.ifCond .eq 7, 3) := by decide +kernel
theorem dX4_fillings_79 : decode cX4_fillings 79 = .ok (.iconst 1, 1) := by decide +kernel
theorem dX4_fillings_80 : decode cX4_fillings 80 = .ok (.goto 4, 3) := by decide +kernel
theorem dX4_fillings_83 : decode cX4_fillings 83 = .ok (.iconst 0, 1) := by decide +kernel
theorem dX4_fillings_84 : decode cX4_fillings 84 = .ok (.iadd, 1) := by decide +kernel
theorem dX4_fillings_85 : decode cX4_fillings 85 = .ok (.istore 5, 2) := by decide +kernel
theorem dX4_fillings_87 : decode cX4_fillings 87 = .ok (.iinc 6 1, 3) := by decide +kernel
theorem dX4_fillings_90 : decode cX4_fillings 90 = .ok (.goto (-32), 3) := by decide +kernel
theorem dX4_fillings_93 : decode cX4_fillings 93 = .ok (.iload 5, 2) := by decide +kernel
theorem dX4_fillings_95 : decode cX4_fillings 95 = .ok (.ireturn, 1) := by decide +kernel
theorem dX4_layTableaux_0 : decode cX4_layTableaux 0 = .ok (.aload_n 0, 1) := by decide +kernel
theorem dX4_layTableaux_1 : decode cX4_layTableaux 1 = .ok (.getfield 109, 3) := by decide +kernel
theorem dX4_layTableaux_4 : decode cX4_layTableaux 4 = .ok (.ifCond .eq 4, 3) := by decide +kernel
theorem dX4_layTableaux_7 : decode cX4_layTableaux 7 = .ok (.return_, 1) := by decide +kernel
theorem dX4_layTableaux_8 : decode cX4_layTableaux 8 = .ok (.aload_n 0, 1) := by decide +kernel
theorem dX4_layTableaux_9 : decode cX4_layTableaux 9 = .ok (.iconst 1, 1) := by decide +kernel
theorem dX4_layTableaux_10 : decode cX4_layTableaux 10 = .ok (.putfield 109, 3) := by decide +kernel
theorem dX4_layTableaux_13 : decode cX4_layTableaux 13 = .ok (.iconst 0, 1) := by decide +kernel
theorem dX4_layTableaux_14 : decode cX4_layTableaux 14 = .ok (.istore_n 1, 1) := by decide +kernel
theorem dX4_layTableaux_15 : decode cX4_layTableaux 15 = .ok (.iload_n 1, 1) := by decide +kernel
theorem dX4_layTableaux_16 : decode cX4_layTableaux 16 = .ok (.bipush 30, 2) := by decide +kernel
theorem dX4_layTableaux_18 : decode cX4_layTableaux 18 = .ok (.if_icmp .ge 41, 3) := by decide +kernel
theorem dX4_layTableaux_21 : decode cX4_layTableaux 21 = .ok (.iconst 0, 1) := by decide +kernel
theorem dX4_layTableaux_22 : decode cX4_layTableaux 22 = .ok (.istore_n 2, 1) := by decide +kernel
theorem dX4_layTableaux_23 : decode cX4_layTableaux 23 = .ok (.iload_n 2, 1) := by decide +kernel
theorem dX4_layTableaux_24 : decode cX4_layTableaux 24 = .ok (.bipush 30, 2) := by decide +kernel
theorem dX4_layTableaux_26 : decode cX4_layTableaux 26 = .ok (.if_icmp .ge 27, 3) := by decide +kernel
theorem dX4_layTableaux_29 : decode cX4_layTableaux 29 = .ok (.aload_n 0, 1) := by decide +kernel
theorem dX4_layTableaux_30 : decode cX4_layTableaux 30 = .ok (.getfield 19, 3) := by decide +kernel
theorem dX4_layTableaux_33 : decode cX4_layTableaux 33 = .ok (.iconst 4, 1) := by decide +kernel
theorem dX4_layTableaux_34 : decode cX4_layTableaux 34 = .ok (.iload_n 1, 1) := by decide +kernel
theorem dX4_layTableaux_35 : decode cX4_layTableaux 35 = .ok (.iload_n 2, 1) := by decide +kernel
theorem dX4_layTableaux_36 : decode cX4_layTableaux 36 = .ok (.invokestatic 75, 3) := by decide +kernel
theorem dX4_layTableaux_39 : decode cX4_layTableaux 39 = .ok (.aload_n 0, 1) := by decide +kernel
theorem dX4_layTableaux_40 : decode cX4_layTableaux 40 = .ok (.iload_n 1, 1) := by decide +kernel
theorem dX4_layTableaux_41 : decode cX4_layTableaux 41 = .ok (.iload_n 2, 1) := by decide +kernel
theorem dX4_layTableaux_42 : decode cX4_layTableaux 42 = .ok (.invokevirtual 113, 3) := by decide +kernel
theorem dX4_layTableaux_45 : decode cX4_layTableaux 45 = .ok (.i2l, 1) := by decide +kernel
theorem dX4_layTableaux_46 : decode cX4_layTableaux 46 = .ok (.lastore, 1) := by decide +kernel
theorem dX4_layTableaux_47 : decode cX4_layTableaux 47 = .ok (.iinc 2 1, 3) := by decide +kernel
theorem dX4_layTableaux_50 : decode cX4_layTableaux 50 = .ok (.goto (-27), 3) := by decide +kernel
theorem dX4_layTableaux_53 : decode cX4_layTableaux 53 = .ok (.iinc 1 1, 3) := by decide +kernel
theorem dX4_layTableaux_56 : decode cX4_layTableaux 56 = .ok (.goto (-41), 3) := by decide +kernel
theorem dX4_layTableaux_59 : decode cX4_layTableaux 59 = .ok (.return_, 1) := by decide +kernel
theorem dX4_part_0 : decode cX4_part 0 = .ok (.iload_n 1, 1) := by decide +kernel
theorem dX4_part_1 : decode cX4_part 1 = .ok (.invokestatic 116, 3) := by decide +kernel
theorem dX4_part_4 : decode cX4_part 4 = .ok (.ifCond .ne 5, 3) := by decide +kernel
theorem dX4_part_7 : decode cX4_part 7 = .ok (.iconst (-1), 1) := by decide +kernel
theorem dX4_part_8 : decode cX4_part 8 = .ok (.ireturn, 1) := by decide +kernel
theorem dX4_part_9 : decode cX4_part 9 = .ok (.iload_n 2, 1) := by decide +kernel
theorem dX4_part_10 : decode cX4_part 10 = .ok (.iconst 0, 1) := by decide +kernel
theorem dX4_part_11 : decode cX4_part 11 = .ok (.iconst 5, 1) := by decide +kernel
theorem dX4_part_12 : decode cX4_part 12 = .ok (.invokestatic 101, 3) := by decide +kernel
theorem dX4_part_15 : decode cX4_part 15 = .ok (.ifCond .eq 12, 3) := by decide +kernel
theorem dX4_part_18 : decode cX4_part 18 = .ok (.aload_n 0, 1) := by decide +kernel
theorem dX4_part_19 : decode cX4_part 19 = .ok (.iload_n 1, 1) := by decide +kernel
theorem dX4_part_20 : decode cX4_part 20 = .ok (.iload_n 2, 1) := by decide +kernel
theorem dX4_part_21 : decode cX4_part 21 = .ok (.invokevirtual 91, 3) := by decide +kernel
theorem dX4_part_24 : decode cX4_part 24 = .ok (.goto 5, 3) := by decide +kernel
theorem dX4_part_27 : decode cX4_part 27 = .ok (.bipush (-2), 2) := by decide +kernel
theorem dX4_part_29 : decode cX4_part 29 = .ok (.ireturn, 1) := by decide +kernel
theorem dX4_conjugate_0 : decode cX4_conjugate 0 = .ok (.iconst 0, 1) := by decide +kernel
theorem dX4_conjugate_1 : decode cX4_conjugate 1 = .ok (.istore_n 2, 1) := by decide +kernel
theorem dX4_conjugate_2 : decode cX4_conjugate 2 = .ok (.iconst 1, 1) := by decide +kernel
theorem dX4_conjugate_3 : decode cX4_conjugate 3 = .ok (.istore_n 3, 1) := by decide +kernel
theorem dX4_conjugate_4 : decode cX4_conjugate 4 = .ok (.iload_n 3, 1) := by decide +kernel
theorem dX4_conjugate_5 : decode cX4_conjugate 5 = .ok (.bipush 6, 2) := by decide +kernel
theorem dX4_conjugate_7 : decode cX4_conjugate 7 = .ok (.if_icmp .gt 57, 3) := by decide +kernel
theorem dX4_conjugate_10 : decode cX4_conjugate 10 = .ok (.iconst 0, 1) := by decide +kernel
theorem dX4_conjugate_11 : decode cX4_conjugate 11 = .ok (.istore 4, 2) := by decide +kernel
theorem dX4_conjugate_13 : decode cX4_conjugate 13 = .ok (.iconst 0, 1) := by decide +kernel
theorem dX4_conjugate_14 : decode cX4_conjugate 14 = .ok (.istore 5, 2) := by decide +kernel
theorem dX4_conjugate_16 : decode cX4_conjugate 16 = .ok (.iload 5, 2) := by decide +kernel
theorem dX4_conjugate_18 : decode cX4_conjugate 18 = .ok (.bipush 6, 2) := by decide +kernel
theorem dX4_conjugate_20 : decode cX4_conjugate 20 = .ok (.if_icmp .ge 30, 3) := by decide +kernel
theorem dX4_conjugate_23 : decode cX4_conjugate 23 = .ok (.iload 4, 2) := by decide +kernel
theorem dX4_conjugate_25 : decode cX4_conjugate 25 = .ok (.aload_n 0, 1) := by decide +kernel
theorem dX4_conjugate_26 : decode cX4_conjugate 26 = .ok (.iload_n 1, 1) := by decide +kernel
theorem dX4_conjugate_27 : decode cX4_conjugate 27 = .ok (.iload 5, 2) := by decide +kernel
theorem dX4_conjugate_29 : decode cX4_conjugate 29 = .ok (.invokevirtual 91, 3) := by decide +kernel
theorem dX4_conjugate_32 : decode cX4_conjugate 32 = .ok (.iload_n 3, 1) := by decide +kernel
theorem dX4_conjugate_33 : decode cX4_conjugate 33 = .ok (.if_icmp .lt 7, 3) := by decide +kernel
theorem dX4_conjugate_36 : decode cX4_conjugate 36 = .ok (.iconst 1, 1) := by decide +kernel
theorem dX4_conjugate_37 : decode cX4_conjugate 37 = .ok (.goto 4, 3) := by decide +kernel
theorem dX4_conjugate_40 : decode cX4_conjugate 40 = .ok (.iconst 0, 1) := by decide +kernel
theorem dX4_conjugate_41 : decode cX4_conjugate 41 = .ok (.iadd, 1) := by decide +kernel
theorem dX4_conjugate_42 : decode cX4_conjugate 42 = .ok (.istore 4, 2) := by decide +kernel
theorem dX4_conjugate_44 : decode cX4_conjugate 44 = .ok (.iinc 5 1, 3) := by decide +kernel
theorem dX4_conjugate_47 : decode cX4_conjugate 47 = .ok (.goto (-31), 3) := by decide +kernel
theorem dX4_conjugate_50 : decode cX4_conjugate 50 = .ok (.iload_n 2, 1) := by decide +kernel
theorem dX4_conjugate_51 : decode cX4_conjugate 51 = .ok (.iload 4, 2) := by decide +kernel
theorem dX4_conjugate_53 : decode cX4_conjugate 53 = .ok (.invokestatic 87, 3) := by decide +kernel
theorem dX4_conjugate_56 : decode cX4_conjugate 56 = .ok (.iadd, 1) := by decide +kernel
theorem dX4_conjugate_57 : decode cX4_conjugate 57 = .ok (.istore_n 2, 1) := by decide +kernel
theorem dX4_conjugate_58 : decode cX4_conjugate 58 = .ok (.iinc 3 1, 3) := by decide +kernel
theorem dX4_conjugate_61 : decode cX4_conjugate 61 = .ok (.goto (-57), 3) := by decide +kernel
theorem dX4_conjugate_64 : decode cX4_conjugate 64 = .ok (.aload_n 0, 1) := by decide +kernel
theorem dX4_conjugate_65 : decode cX4_conjugate 65 = .ok (.getfield 16, 3) := by decide +kernel
theorem dX4_conjugate_68 : decode cX4_conjugate 68 = .ok (.iload_n 2, 1) := by decide +kernel
theorem dX4_conjugate_69 : decode cX4_conjugate 69 = .ok (.iaload, 1) := by decide +kernel
theorem dX4_conjugate_70 : decode cX4_conjugate 70 = .ok (.ireturn, 1) := by decide +kernel
theorem dX4_timesOf_0 : decode cX4_timesOf 0 = .ok (.iconst 0, 1) := by decide +kernel
theorem dX4_timesOf_1 : decode cX4_timesOf 1 = .ok (.istore_n 3, 1) := by decide +kernel
theorem dX4_timesOf_2 : decode cX4_timesOf 2 = .ok (.iconst 0, 1) := by decide +kernel
theorem dX4_timesOf_3 : decode cX4_timesOf 3 = .ok (.istore 4, 2) := by decide +kernel
theorem dX4_timesOf_5 : decode cX4_timesOf 5 = .ok (.iload 4, 2) := by decide +kernel
theorem dX4_timesOf_7 : decode cX4_timesOf 7 = .ok (.bipush 6, 2) := by decide +kernel
theorem dX4_timesOf_9 : decode cX4_timesOf 9 = .ok (.if_icmp .ge 28, 3) := by decide +kernel
theorem dX4_timesOf_12 : decode cX4_timesOf 12 = .ok (.iload_n 3, 1) := by decide +kernel
theorem dX4_timesOf_13 : decode cX4_timesOf 13 = .ok (.aload_n 0, 1) := by decide +kernel
theorem dX4_timesOf_14 : decode cX4_timesOf 14 = .ok (.iload_n 1, 1) := by decide +kernel
theorem dX4_timesOf_15 : decode cX4_timesOf 15 = .ok (.iload 4, 2) := by decide +kernel
theorem dX4_timesOf_17 : decode cX4_timesOf 17 = .ok (.invokevirtual 91, 3) := by decide +kernel
theorem dX4_timesOf_20 : decode cX4_timesOf 20 = .ok (.iload_n 2, 1) := by decide +kernel
theorem dX4_timesOf_21 : decode cX4_timesOf 21 = .ok (.if_icmp .ne 7, 3) := by decide +kernel
theorem dX4_timesOf_24 : decode cX4_timesOf 24 = .ok (.iconst 1, 1) := by decide +kernel
theorem dX4_timesOf_25 : decode cX4_timesOf 25 = .ok (.goto 4, 3) := by decide +kernel
theorem dX4_timesOf_28 : decode cX4_timesOf 28 = .ok (.iconst 0, 1) := by decide +kernel
theorem dX4_timesOf_29 : decode cX4_timesOf 29 = .ok (.iadd, 1) := by decide +kernel
theorem dX4_timesOf_30 : decode cX4_timesOf 30 = .ok (.istore_n 3, 1) := by decide +kernel
theorem dX4_timesOf_31 : decode cX4_timesOf 31 = .ok (.iinc 4 1, 3) := by decide +kernel
theorem dX4_timesOf_34 : decode cX4_timesOf 34 = .ok (.goto (-29), 3) := by decide +kernel
theorem dX4_timesOf_37 : decode cX4_timesOf 37 = .ok (.iload_n 3, 1) := by decide +kernel
theorem dX4_timesOf_38 : decode cX4_timesOf 38 = .ok (.ireturn, 1) := by decide +kernel
theorem dX4_alike_0 : decode cX4_alike 0 = .ok (.iconst 1, 1) := by decide +kernel
theorem dX4_alike_1 : decode cX4_alike 1 = .ok (.istore_n 2, 1) := by decide +kernel
theorem dX4_alike_2 : decode cX4_alike 2 = .ok (.iconst 1, 1) := by decide +kernel
theorem dX4_alike_3 : decode cX4_alike 3 = .ok (.istore_n 3, 1) := by decide +kernel
theorem dX4_alike_4 : decode cX4_alike 4 = .ok (.iload_n 3, 1) := by decide +kernel
theorem dX4_alike_5 : decode cX4_alike 5 = .ok (.bipush 6, 2) := by decide +kernel
theorem dX4_alike_7 : decode cX4_alike 7 = .ok (.if_icmp .gt 38, 3) := by decide +kernel
theorem dX4_alike_10 : decode cX4_alike 10 = .ok (.aload_n 0, 1) := by decide +kernel
theorem dX4_alike_11 : decode cX4_alike 11 = .ok (.iload_n 1, 1) := by decide +kernel
theorem dX4_alike_12 : decode cX4_alike 12 = .ok (.iload_n 3, 1) := by decide +kernel
theorem dX4_alike_13 : decode cX4_alike 13 = .ok (.invokevirtual 120, 3) := by decide +kernel
theorem dX4_alike_16 : decode cX4_alike 16 = .ok (.istore 4, 2) := by decide +kernel
theorem dX4_alike_18 : decode cX4_alike 18 = .ok (.iconst 2, 1) := by decide +kernel
theorem dX4_alike_19 : decode cX4_alike 19 = .ok (.istore 5, 2) := by decide +kernel
theorem dX4_alike_21 : decode cX4_alike 21 = .ok (.iload 5, 2) := by decide +kernel
theorem dX4_alike_23 : decode cX4_alike 23 = .ok (.iload 4, 2) := by decide +kernel
theorem dX4_alike_25 : decode cX4_alike 25 = .ok (.if_icmp .gt 14, 3) := by decide +kernel
theorem dX4_alike_28 : decode cX4_alike 28 = .ok (.iload_n 2, 1) := by decide +kernel
theorem dX4_alike_29 : decode cX4_alike 29 = .ok (.iload 5, 2) := by decide +kernel
theorem dX4_alike_31 : decode cX4_alike 31 = .ok (.imul, 1) := by decide +kernel
theorem dX4_alike_32 : decode cX4_alike 32 = .ok (.istore_n 2, 1) := by decide +kernel
theorem dX4_alike_33 : decode cX4_alike 33 = .ok (.iinc 5 1, 3) := by decide +kernel
theorem dX4_alike_36 : decode cX4_alike 36 = .ok (.goto (-15), 3) := by decide +kernel
theorem dX4_alike_39 : decode cX4_alike 39 = .ok (.iinc 3 1, 3) := by decide +kernel
theorem dX4_alike_42 : decode cX4_alike 42 = .ok (.goto (-38), 3) := by decide +kernel
theorem dX4_alike_45 : decode cX4_alike 45 = .ok (.iload_n 2, 1) := by decide +kernel
theorem dX4_alike_46 : decode cX4_alike 46 = .ok (.ireturn, 1) := by decide +kernel
theorem dX4_z_0 : decode cX4_z 0 = .ok (.aload_n 0, 1) := by decide +kernel
theorem dX4_z_1 : decode cX4_z 1 = .ok (.iload_n 1, 1) := by decide +kernel
theorem dX4_z_2 : decode cX4_z 2 = .ok (.invokevirtual 123, 3) := by decide +kernel
theorem dX4_z_5 : decode cX4_z 5 = .ok (.istore_n 2, 1) := by decide +kernel
theorem dX4_z_6 : decode cX4_z 6 = .ok (.iconst 0, 1) := by decide +kernel
theorem dX4_z_7 : decode cX4_z 7 = .ok (.istore_n 3, 1) := by decide +kernel
theorem dX4_z_8 : decode cX4_z 8 = .ok (.iload_n 3, 1) := by decide +kernel
theorem dX4_z_9 : decode cX4_z 9 = .ok (.bipush 6, 2) := by decide +kernel
theorem dX4_z_11 : decode cX4_z 11 = .ok (.if_icmp .ge 31, 3) := by decide +kernel
theorem dX4_z_14 : decode cX4_z 14 = .ok (.iload_n 2, 1) := by decide +kernel
theorem dX4_z_15 : decode cX4_z 15 = .ok (.aload_n 0, 1) := by decide +kernel
theorem dX4_z_16 : decode cX4_z 16 = .ok (.iload_n 1, 1) := by decide +kernel
theorem dX4_z_17 : decode cX4_z 17 = .ok (.iload_n 3, 1) := by decide +kernel
theorem dX4_z_18 : decode cX4_z 18 = .ok (.invokevirtual 91, 3) := by decide +kernel
theorem dX4_z_21 : decode cX4_z 21 = .ok (.ifCond .le 12, 3) := by decide +kernel
theorem dX4_z_24 : decode cX4_z 24 = .ok (.aload_n 0, 1) := by decide +kernel
theorem dX4_z_25 : decode cX4_z 25 = .ok (.iload_n 1, 1) := by decide +kernel
theorem dX4_z_26 : decode cX4_z 26 = .ok (.iload_n 3, 1) := by decide +kernel
theorem dX4_z_27 : decode cX4_z 27 = .ok (.invokevirtual 91, 3) := by decide +kernel
theorem dX4_z_30 : decode cX4_z 30 = .ok (.goto 4, 3) := by decide +kernel
theorem dX4_z_33 : decode cX4_z 33 = .ok (.iconst 1, 1) := by decide +kernel
theorem dX4_z_34 : decode cX4_z 34 = .ok (.imul, 1) := by decide +kernel
theorem dX4_z_35 : decode cX4_z 35 = .ok (.istore_n 2, 1) := by decide +kernel
theorem dX4_z_36 : decode cX4_z 36 = .ok (.iinc 3 1, 3) := by decide +kernel
theorem dX4_z_39 : decode cX4_z 39 = .ok (.goto (-31), 3) := by decide +kernel
theorem dX4_z_42 : decode cX4_z 42 = .ok (.iload_n 2, 1) := by decide +kernel
theorem dX4_z_43 : decode cX4_z 43 = .ok (.ireturn, 1) := by decide +kernel
theorem dX4_about_0 : decode cX4_about 0 = .ok (.iload_n 1, 1) := by decide +kernel
theorem dX4_about_1 : decode cX4_about 1 = .ok (.invokestatic 116, 3) := by decide +kernel
theorem dX4_about_4 : decode cX4_about 4 = .ok (.ifCond .ne 5, 3) := by decide +kernel
theorem dX4_about_7 : decode cX4_about 7 = .ok (.iconst (-1), 1) := by decide +kernel
theorem dX4_about_8 : decode cX4_about 8 = .ok (.ireturn, 1) := by decide +kernel
theorem dX4_about_9 : decode cX4_about 9 = .ok (.iload_n 2, 1) := by decide +kernel
theorem dX4_about_10 : decode cX4_about 10 = .ok (.tableswitch 81 0 4 #[34, 41, 47, 53, 59], 34) := by decide +kernel
theorem dX4_about_44 : decode cX4_about 44 = .ok (.aload_n 0, 1) := by decide +kernel
theorem dX4_about_45 : decode cX4_about 45 = .ok (.getfield 13, 3) := by decide +kernel
theorem dX4_about_48 : decode cX4_about 48 = .ok (.iload_n 1, 1) := by decide +kernel
theorem dX4_about_49 : decode cX4_about 49 = .ok (.iaload, 1) := by decide +kernel
theorem dX4_about_50 : decode cX4_about 50 = .ok (.ireturn, 1) := by decide +kernel
theorem dX4_about_51 : decode cX4_about 51 = .ok (.aload_n 0, 1) := by decide +kernel
theorem dX4_about_52 : decode cX4_about 52 = .ok (.iload_n 1, 1) := by decide +kernel
theorem dX4_about_53 : decode cX4_about 53 = .ok (.invokevirtual 94, 3) := by decide +kernel
theorem dX4_about_56 : decode cX4_about 56 = .ok (.ireturn, 1) := by decide +kernel
theorem dX4_about_57 : decode cX4_about 57 = .ok (.aload_n 0, 1) := by decide +kernel
theorem dX4_about_58 : decode cX4_about 58 = .ok (.iload_n 1, 1) := by decide +kernel
theorem dX4_about_59 : decode cX4_about 59 = .ok (.invokevirtual 126, 3) := by decide +kernel
theorem dX4_about_62 : decode cX4_about 62 = .ok (.ireturn, 1) := by decide +kernel
theorem dX4_about_63 : decode cX4_about 63 = .ok (.aload_n 0, 1) := by decide +kernel
theorem dX4_about_64 : decode cX4_about 64 = .ok (.iload_n 1, 1) := by decide +kernel
theorem dX4_about_65 : decode cX4_about 65 = .ok (.invokevirtual 129, 3) := by decide +kernel
theorem dX4_about_68 : decode cX4_about 68 = .ok (.ireturn, 1) := by decide +kernel
theorem dX4_about_69 : decode cX4_about 69 = .ok (.aload_n 0, 1) := by decide +kernel
theorem dX4_about_70 : decode cX4_about 70 = .ok (.iload_n 1, 1) := by decide +kernel
theorem dX4_about_71 : decode cX4_about 71 = .ok (.aload_n 0, 1) := by decide +kernel
theorem dX4_about_72 : decode cX4_about 72 = .ok (.getfield 16, 3) := by decide +kernel
theorem dX4_about_75 : decode cX4_about 75 = .ok (.aload_n 0, 1) := by decide +kernel
theorem dX4_about_76 : decode cX4_about 76 = .ok (.getfield 13, 3) := by decide +kernel
theorem dX4_about_79 : decode cX4_about 79 = .ok (.iload_n 1, 1) := by decide +kernel
theorem dX4_about_80 : decode cX4_about 80 = .ok (.iaload, 1) := by decide +kernel
theorem dX4_about_81 : decode cX4_about 81 = .ok (.iconst 1, 1) := by decide +kernel
theorem dX4_about_82 : decode cX4_about 82 = .ok (.invokestatic 87, 3) := by decide +kernel
theorem dX4_about_85 : decode cX4_about 85 = .ok (.imul, 1) := by decide +kernel
theorem dX4_about_86 : decode cX4_about 86 = .ok (.iaload, 1) := by decide +kernel
theorem dX4_about_87 : decode cX4_about 87 = .ok (.invokevirtual 113, 3) := by decide +kernel
theorem dX4_about_90 : decode cX4_about 90 = .ok (.ireturn, 1) := by decide +kernel
theorem dX4_about_91 : decode cX4_about 91 = .ok (.bipush (-2), 2) := by decide +kernel
theorem dX4_about_93 : decode cX4_about 93 = .ok (.ireturn, 1) := by decide +kernel
theorem dX4_kostka_0 : decode cX4_kostka 0 = .ok (.iload_n 1, 1) := by decide +kernel
theorem dX4_kostka_1 : decode cX4_kostka 1 = .ok (.invokestatic 116, 3) := by decide +kernel
theorem dX4_kostka_4 : decode cX4_kostka 4 = .ok (.ifCond .eq 19, 3) := by decide +kernel
theorem dX4_kostka_7 : decode cX4_kostka 7 = .ok (.iload_n 2, 1) := by decide +kernel
theorem dX4_kostka_8 : decode cX4_kostka 8 = .ok (.invokestatic 116, 3) := by decide +kernel
theorem dX4_kostka_11 : decode cX4_kostka 11 = .ok (.ifCond .eq 12, 3) := by decide +kernel
theorem dX4_kostka_14 : decode cX4_kostka 14 = .ok (.aload_n 0, 1) := by decide +kernel
theorem dX4_kostka_15 : decode cX4_kostka 15 = .ok (.iload_n 1, 1) := by decide +kernel
theorem dX4_kostka_16 : decode cX4_kostka 16 = .ok (.iload_n 2, 1) := by decide +kernel
theorem dX4_kostka_17 : decode cX4_kostka 17 = .ok (.invokevirtual 113, 3) := by decide +kernel
theorem dX4_kostka_20 : decode cX4_kostka 20 = .ok (.goto 4, 3) := by decide +kernel
theorem dX4_kostka_23 : decode cX4_kostka 23 = .ok (.iconst (-1), 1) := by decide +kernel
theorem dX4_kostka_24 : decode cX4_kostka 24 = .ok (.ireturn, 1) := by decide +kernel
theorem dX4_above_0 : decode cX4_above 0 = .ok (.iload_n 1, 1) := by decide +kernel
theorem dX4_above_1 : decode cX4_above 1 = .ok (.invokestatic 116, 3) := by decide +kernel
theorem dX4_above_4 : decode cX4_above 4 = .ok (.ifCond .eq 10, 3) := by decide +kernel
theorem dX4_above_7 : decode cX4_above 7 = .ok (.iload_n 2, 1) := by decide +kernel
theorem dX4_above_8 : decode cX4_above 8 = .ok (.invokestatic 116, 3) := by decide +kernel
theorem dX4_above_11 : decode cX4_above 11 = .ok (.ifCond .ne 5, 3) := by decide +kernel
theorem dX4_above_14 : decode cX4_above 14 = .ok (.iconst (-1), 1) := by decide +kernel
theorem dX4_above_15 : decode cX4_above 15 = .ok (.ireturn, 1) := by decide +kernel
theorem dX4_above_16 : decode cX4_above 16 = .ok (.iconst 0, 1) := by decide +kernel
theorem dX4_above_17 : decode cX4_above 17 = .ok (.istore_n 3, 1) := by decide +kernel
theorem dX4_above_18 : decode cX4_above 18 = .ok (.aload_n 0, 1) := by decide +kernel
theorem dX4_above_19 : decode cX4_above 19 = .ok (.getfield 13, 3) := by decide +kernel
theorem dX4_above_22 : decode cX4_above 22 = .ok (.iload_n 1, 1) := by decide +kernel
theorem dX4_above_23 : decode cX4_above 23 = .ok (.iaload, 1) := by decide +kernel
theorem dX4_above_24 : decode cX4_above 24 = .ok (.aload_n 0, 1) := by decide +kernel
theorem dX4_above_25 : decode cX4_above 25 = .ok (.getfield 13, 3) := by decide +kernel
theorem dX4_above_28 : decode cX4_above 28 = .ok (.iload_n 2, 1) := by decide +kernel
theorem dX4_above_29 : decode cX4_above 29 = .ok (.iaload, 1) := by decide +kernel
theorem dX4_above_30 : decode cX4_above 30 = .ok (.if_icmp .ne 7, 3) := by decide +kernel
theorem dX4_above_33 : decode cX4_above 33 = .ok (.iconst 1, 1) := by decide +kernel
theorem dX4_above_34 : decode cX4_above 34 = .ok (.goto 4, 3) := by decide +kernel
theorem dX4_above_37 : decode cX4_above 37 = .ok (.iconst 0, 1) := by decide +kernel
theorem dX4_above_38 : decode cX4_above 38 = .ok (.istore 4, 2) := by decide +kernel
theorem dX4_above_40 : decode cX4_above 40 = .ok (.iconst 0, 1) := by decide +kernel
theorem dX4_above_41 : decode cX4_above 41 = .ok (.istore 5, 2) := by decide +kernel
theorem dX4_above_43 : decode cX4_above 43 = .ok (.iload 5, 2) := by decide +kernel
theorem dX4_above_45 : decode cX4_above 45 = .ok (.bipush 6, 2) := by decide +kernel
theorem dX4_above_47 : decode cX4_above 47 = .ok (.if_icmp .ge 43, 3) := by decide +kernel
theorem dX4_above_50 : decode cX4_above 50 = .ok (.iload_n 3, 1) := by decide +kernel
theorem dX4_above_51 : decode cX4_above 51 = .ok (.aload_n 0, 1) := by decide +kernel
theorem dX4_above_52 : decode cX4_above 52 = .ok (.iload_n 1, 1) := by decide +kernel
theorem dX4_above_53 : decode cX4_above 53 = .ok (.iload 5, 2) := by decide +kernel
theorem dX4_above_55 : decode cX4_above 55 = .ok (.invokevirtual 91, 3) := by decide +kernel
theorem dX4_above_58 : decode cX4_above 58 = .ok (.aload_n 0, 1) := by decide +kernel
theorem dX4_above_59 : decode cX4_above 59 = .ok (.iload_n 2, 1) := by decide +kernel
theorem dX4_above_60 : decode cX4_above 60 = .ok (.iload 5, 2) := by decide +kernel
theorem dX4_above_62 : decode cX4_above 62 = .ok (.invokevirtual 91, 3) := by decide +kernel
theorem dX4_above_65 : decode cX4_above 65 = .ok (.isub, 1) := by decide +kernel
theorem dX4_above_66 : decode cX4_above 66 = .ok (.iadd, 1) := by decide +kernel
theorem dX4_above_67 : decode cX4_above 67 = .ok (.istore_n 3, 1) := by decide +kernel
theorem dX4_above_68 : decode cX4_above 68 = .ok (.iload 4, 2) := by decide +kernel
theorem dX4_above_70 : decode cX4_above 70 = .ok (.ifCond .eq 11, 3) := by decide +kernel
theorem dX4_above_73 : decode cX4_above 73 = .ok (.iload_n 3, 1) := by decide +kernel
theorem dX4_above_74 : decode cX4_above 74 = .ok (.ifCond .lt 7, 3) := by decide +kernel
theorem dX4_above_77 : decode cX4_above 77 = .ok (.iconst 1, 1) := by decide +kernel
theorem dX4_above_78 : decode cX4_above 78 = .ok (.goto 4, 3) := by decide +kernel
theorem dX4_above_81 : decode cX4_above 81 = .ok (.iconst 0, 1) := by decide +kernel
theorem dX4_above_82 : decode cX4_above 82 = .ok (.istore 4, 2) := by decide +kernel
theorem dX4_above_84 : decode cX4_above 84 = .ok (.iinc 5 1, 3) := by decide +kernel
theorem dX4_above_87 : decode cX4_above 87 = .ok (.goto (-44), 3) := by decide +kernel
theorem dX4_above_90 : decode cX4_above 90 = .ok (.iload 4, 2) := by decide +kernel
theorem dX4_above_92 : decode cX4_above 92 = .ok (.ifCond .eq 7, 3) := by decide +kernel
theorem dX4_above_95 : decode cX4_above 95 = .ok (.iconst 1, 1) := by decide +kernel
theorem dX4_above_96 : decode cX4_above 96 = .ok (.goto 4, 3) := by decide +kernel
theorem dX4_above_99 : decode cX4_above 99 = .ok (.iconst 0, 1) := by decide +kernel
theorem dX4_above_100 : decode cX4_above 100 = .ok (.ireturn, 1) := by decide +kernel
theorem dX4_takeOff_0 : decode cX4_takeOff 0 = .ok (.aload_n 0, 1) := by decide +kernel
theorem dX4_takeOff_1 : decode cX4_takeOff 1 = .ok (.getfield 38, 3) := by decide +kernel
theorem dX4_takeOff_4 : decode cX4_takeOff 4 = .ok (.iload_n 2, 1) := by decide +kernel
theorem dX4_takeOff_5 : decode cX4_takeOff 5 = .ok (.lload_n 3, 1) := by decide +kernel
theorem dX4_takeOff_6 : decode cX4_takeOff 6 = .ok (.lastore, 1) := by decide +kernel
theorem dX4_takeOff_7 : decode cX4_takeOff 7 = .ok (.iconst 0, 1) := by decide +kernel
theorem dX4_takeOff_8 : decode cX4_takeOff 8 = .ok (.istore 5, 2) := by decide +kernel
theorem dX4_takeOff_10 : decode cX4_takeOff 10 = .ok (.iload 5, 2) := by decide +kernel
theorem dX4_takeOff_12 : decode cX4_takeOff 12 = .ok (.bipush 30, 2) := by decide +kernel
theorem dX4_takeOff_14 : decode cX4_takeOff 14 = .ok (.if_icmp .ge 33, 3) := by decide +kernel
theorem dX4_takeOff_17 : decode cX4_takeOff 17 = .ok (.aload_n 0, 1) := by decide +kernel
theorem dX4_takeOff_18 : decode cX4_takeOff 18 = .ok (.getfield 35, 3) := by decide +kernel
theorem dX4_takeOff_21 : decode cX4_takeOff 21 = .ok (.iload 5, 2) := by decide +kernel
theorem dX4_takeOff_23 : decode cX4_takeOff 23 = .ok (.dup2, 1) := by decide +kernel
theorem dX4_takeOff_24 : decode cX4_takeOff 24 = .ok (.laload, 1) := by decide +kernel
theorem dX4_takeOff_25 : decode cX4_takeOff 25 = .ok (.lload_n 3, 1) := by decide +kernel
theorem dX4_takeOff_26 : decode cX4_takeOff 26 = .ok (.aload_n 0, 1) := by decide +kernel
theorem dX4_takeOff_27 : decode cX4_takeOff 27 = .ok (.getfield 19, 3) := by decide +kernel
theorem dX4_takeOff_30 : decode cX4_takeOff 30 = .ok (.iload_n 1, 1) := by decide +kernel
theorem dX4_takeOff_31 : decode cX4_takeOff 31 = .ok (.iload_n 2, 1) := by decide +kernel
theorem dX4_takeOff_32 : decode cX4_takeOff 32 = .ok (.iload 5, 2) := by decide +kernel
theorem dX4_takeOff_34 : decode cX4_takeOff 34 = .ok (.invokestatic 75, 3) := by decide +kernel
theorem dX4_takeOff_37 : decode cX4_takeOff 37 = .ok (.laload, 1) := by decide +kernel
theorem dX4_takeOff_38 : decode cX4_takeOff 38 = .ok (.lmul, 1) := by decide +kernel
theorem dX4_takeOff_39 : decode cX4_takeOff 39 = .ok (.lsub, 1) := by decide +kernel
theorem dX4_takeOff_40 : decode cX4_takeOff 40 = .ok (.lastore, 1) := by decide +kernel
theorem dX4_takeOff_41 : decode cX4_takeOff 41 = .ok (.iinc 5 1, 3) := by decide +kernel
theorem dX4_takeOff_44 : decode cX4_takeOff 44 = .ok (.goto (-34), 3) := by decide +kernel
theorem dX4_takeOff_47 : decode cX4_takeOff 47 = .ok (.return_, 1) := by decide +kernel
theorem dX4_layFound_0 : decode cX4_layFound 0 = .ok (.iconst 0, 1) := by decide +kernel
theorem dX4_layFound_1 : decode cX4_layFound 1 = .ok (.istore 4, 2) := by decide +kernel
theorem dX4_layFound_3 : decode cX4_layFound 3 = .ok (.iload 4, 2) := by decide +kernel
theorem dX4_layFound_5 : decode cX4_layFound 5 = .ok (.bipush 30, 2) := by decide +kernel
theorem dX4_layFound_7 : decode cX4_layFound 7 = .ok (.if_icmp .ge 40, 3) := by decide +kernel
theorem dX4_layFound_10 : decode cX4_layFound 10 = .ok (.aload_n 0, 1) := by decide +kernel
theorem dX4_layFound_11 : decode cX4_layFound 11 = .ok (.getfield 35, 3) := by decide +kernel
theorem dX4_layFound_14 : decode cX4_layFound 14 = .ok (.iload 4, 2) := by decide +kernel
theorem dX4_layFound_16 : decode cX4_layFound 16 = .ok (.iload_n 3, 1) := by decide +kernel
theorem dX4_layFound_17 : decode cX4_layFound 17 = .ok (.iconst 3, 1) := by decide +kernel
theorem dX4_layFound_18 : decode cX4_layFound 18 = .ok (.if_icmp .ne 16, 3) := by decide +kernel
theorem dX4_layFound_21 : decode cX4_layFound 21 = .ok (.ldc2_w 132, 3) := by decide +kernel
theorem dX4_layFound_24 : decode cX4_layFound 24 = .ok (.aload_n 1, 1) := by decide +kernel
theorem dX4_layFound_25 : decode cX4_layFound 25 = .ok (.iload_n 2, 1) := by decide +kernel
theorem dX4_layFound_26 : decode cX4_layFound 26 = .ok (.iload 4, 2) := by decide +kernel
theorem dX4_layFound_28 : decode cX4_layFound 28 = .ok (.iadd, 1) := by decide +kernel
theorem dX4_layFound_29 : decode cX4_layFound 29 = .ok (.laload, 1) := by decide +kernel
theorem dX4_layFound_30 : decode cX4_layFound 30 = .ok (.lmul, 1) := by decide +kernel
theorem dX4_layFound_31 : decode cX4_layFound 31 = .ok (.goto 9, 3) := by decide +kernel
theorem dX4_layFound_34 : decode cX4_layFound 34 = .ok (.aload_n 1, 1) := by decide +kernel
theorem dX4_layFound_35 : decode cX4_layFound 35 = .ok (.iload_n 2, 1) := by decide +kernel
theorem dX4_layFound_36 : decode cX4_layFound 36 = .ok (.iload 4, 2) := by decide +kernel
theorem dX4_layFound_38 : decode cX4_layFound 38 = .ok (.iadd, 1) := by decide +kernel
theorem dX4_layFound_39 : decode cX4_layFound 39 = .ok (.laload, 1) := by decide +kernel
theorem dX4_layFound_40 : decode cX4_layFound 40 = .ok (.lastore, 1) := by decide +kernel
theorem dX4_layFound_41 : decode cX4_layFound 41 = .ok (.iinc 4 1, 3) := by decide +kernel
theorem dX4_layFound_44 : decode cX4_layFound 44 = .ok (.goto (-41), 3) := by decide +kernel
theorem dX4_layFound_47 : decode cX4_layFound 47 = .ok (.iload_n 3, 1) := by decide +kernel
theorem dX4_layFound_48 : decode cX4_layFound 48 = .ok (.iconst 4, 1) := by decide +kernel
theorem dX4_layFound_49 : decode cX4_layFound 49 = .ok (.if_icmp .eq 8, 3) := by decide +kernel
theorem dX4_layFound_52 : decode cX4_layFound 52 = .ok (.iload_n 3, 1) := by decide +kernel
theorem dX4_layFound_53 : decode cX4_layFound 53 = .ok (.iconst 2, 1) := by decide +kernel
theorem dX4_layFound_54 : decode cX4_layFound 54 = .ok (.if_icmp .ne 7, 3) := by decide +kernel
theorem dX4_layFound_57 : decode cX4_layFound 57 = .ok (.aload_n 0, 1) := by decide +kernel
theorem dX4_layFound_58 : decode cX4_layFound 58 = .ok (.invokevirtual 134, 3) := by decide +kernel
theorem dX4_layFound_61 : decode cX4_layFound 61 = .ok (.iload_n 3, 1) := by decide +kernel
theorem dX4_layFound_62 : decode cX4_layFound 62 = .ok (.iconst 3, 1) := by decide +kernel
theorem dX4_layFound_63 : decode cX4_layFound 63 = .ok (.if_icmp .ne 43, 3) := by decide +kernel
theorem dX4_layFound_66 : decode cX4_layFound 66 = .ok (.bipush 29, 2) := by decide +kernel
theorem dX4_layFound_68 : decode cX4_layFound 68 = .ok (.istore 4, 2) := by decide +kernel
theorem dX4_layFound_70 : decode cX4_layFound 70 = .ok (.iload 4, 2) := by decide +kernel
theorem dX4_layFound_72 : decode cX4_layFound 72 = .ok (.ifCond .lt 31, 3) := by decide +kernel
theorem dX4_layFound_75 : decode cX4_layFound 75 = .ok (.aload_n 0, 1) := by decide +kernel
theorem dX4_layFound_76 : decode cX4_layFound 76 = .ok (.iconst 3, 1) := by decide +kernel
theorem dX4_layFound_77 : decode cX4_layFound 77 = .ok (.iload 4, 2) := by decide +kernel
theorem dX4_layFound_79 : decode cX4_layFound 79 = .ok (.aload_n 0, 1) := by decide +kernel
theorem dX4_layFound_80 : decode cX4_layFound 80 = .ok (.getfield 35, 3) := by decide +kernel
theorem dX4_layFound_83 : decode cX4_layFound 83 = .ok (.iload 4, 2) := by decide +kernel
theorem dX4_layFound_85 : decode cX4_layFound 85 = .ok (.laload, 1) := by decide +kernel
theorem dX4_layFound_86 : decode cX4_layFound 86 = .ok (.aload_n 0, 1) := by decide +kernel
theorem dX4_layFound_87 : decode cX4_layFound 87 = .ok (.iload 4, 2) := by decide +kernel
theorem dX4_layFound_89 : decode cX4_layFound 89 = .ok (.invokevirtual 123, 3) := by decide +kernel
theorem dX4_layFound_92 : decode cX4_layFound 92 = .ok (.i2l, 1) := by decide +kernel
theorem dX4_layFound_93 : decode cX4_layFound 93 = .ok (.ldiv, 1) := by decide +kernel
theorem dX4_layFound_94 : decode cX4_layFound 94 = .ok (.invokevirtual 137, 3) := by decide +kernel
theorem dX4_layFound_97 : decode cX4_layFound 97 = .ok (.iinc 4 (-1), 3) := by decide +kernel
theorem dX4_layFound_100 : decode cX4_layFound 100 = .ok (.goto (-30), 3) := by decide +kernel
theorem dX4_layFound_103 : decode cX4_layFound 103 = .ok (.goto 83, 3) := by decide +kernel
theorem dX4_layFound_106 : decode cX4_layFound 106 = .ok (.iload_n 3, 1) := by decide +kernel
theorem dX4_layFound_107 : decode cX4_layFound 107 = .ok (.iconst 1, 1) := by decide +kernel
theorem dX4_layFound_108 : decode cX4_layFound 108 = .ok (.if_icmp .ne 40, 3) := by decide +kernel
theorem dX4_layFound_111 : decode cX4_layFound 111 = .ok (.iconst 0, 1) := by decide +kernel
theorem dX4_layFound_112 : decode cX4_layFound 112 = .ok (.istore 4, 2) := by decide +kernel
theorem dX4_layFound_114 : decode cX4_layFound 114 = .ok (.iload 4, 2) := by decide +kernel
theorem dX4_layFound_116 : decode cX4_layFound 116 = .ok (.bipush 30, 2) := by decide +kernel
theorem dX4_layFound_118 : decode cX4_layFound 118 = .ok (.if_icmp .ge 27, 3) := by decide +kernel
theorem dX4_layFound_121 : decode cX4_layFound 121 = .ok (.aload_n 0, 1) := by decide +kernel
theorem dX4_layFound_122 : decode cX4_layFound 122 = .ok (.iconst 1, 1) := by decide +kernel
theorem dX4_layFound_123 : decode cX4_layFound 123 = .ok (.aload_n 0, 1) := by decide +kernel
theorem dX4_layFound_124 : decode cX4_layFound 124 = .ok (.iload 4, 2) := by decide +kernel
theorem dX4_layFound_126 : decode cX4_layFound 126 = .ok (.invokevirtual 126, 3) := by decide +kernel
theorem dX4_layFound_129 : decode cX4_layFound 129 = .ok (.aload_n 0, 1) := by decide +kernel
theorem dX4_layFound_130 : decode cX4_layFound 130 = .ok (.getfield 35, 3) := by decide +kernel
theorem dX4_layFound_133 : decode cX4_layFound 133 = .ok (.iload 4, 2) := by decide +kernel
theorem dX4_layFound_135 : decode cX4_layFound 135 = .ok (.laload, 1) := by decide +kernel
theorem dX4_layFound_136 : decode cX4_layFound 136 = .ok (.invokevirtual 137, 3) := by decide +kernel
theorem dX4_layFound_139 : decode cX4_layFound 139 = .ok (.iinc 4 1, 3) := by decide +kernel
theorem dX4_layFound_142 : decode cX4_layFound 142 = .ok (.goto (-28), 3) := by decide +kernel
theorem dX4_layFound_145 : decode cX4_layFound 145 = .ok (.goto 41, 3) := by decide +kernel
theorem dX4_layFound_148 : decode cX4_layFound 148 = .ok (.iconst 0, 1) := by decide +kernel
theorem dX4_layFound_149 : decode cX4_layFound 149 = .ok (.istore 4, 2) := by decide +kernel
theorem dX4_layFound_151 : decode cX4_layFound 151 = .ok (.iload 4, 2) := by decide +kernel
theorem dX4_layFound_153 : decode cX4_layFound 153 = .ok (.bipush 30, 2) := by decide +kernel
theorem dX4_layFound_155 : decode cX4_layFound 155 = .ok (.if_icmp .ge 31, 3) := by decide +kernel
theorem dX4_layFound_158 : decode cX4_layFound 158 = .ok (.aload_n 0, 1) := by decide +kernel
theorem dX4_layFound_159 : decode cX4_layFound 159 = .ok (.iload_n 3, 1) := by decide +kernel
theorem dX4_layFound_160 : decode cX4_layFound 160 = .ok (.ifCond .ne 7, 3) := by decide +kernel
theorem dX4_layFound_163 : decode cX4_layFound 163 = .ok (.iconst 0, 1) := by decide +kernel
theorem dX4_layFound_164 : decode cX4_layFound 164 = .ok (.goto 4, 3) := by decide +kernel
theorem dX4_layFound_167 : decode cX4_layFound 167 = .ok (.iconst 4, 1) := by decide +kernel
theorem dX4_layFound_168 : decode cX4_layFound 168 = .ok (.iload 4, 2) := by decide +kernel
theorem dX4_layFound_170 : decode cX4_layFound 170 = .ok (.aload_n 0, 1) := by decide +kernel
theorem dX4_layFound_171 : decode cX4_layFound 171 = .ok (.getfield 35, 3) := by decide +kernel
theorem dX4_layFound_174 : decode cX4_layFound 174 = .ok (.iload 4, 2) := by decide +kernel
theorem dX4_layFound_176 : decode cX4_layFound 176 = .ok (.laload, 1) := by decide +kernel
theorem dX4_layFound_177 : decode cX4_layFound 177 = .ok (.invokevirtual 137, 3) := by decide +kernel
theorem dX4_layFound_180 : decode cX4_layFound 180 = .ok (.iinc 4 1, 3) := by decide +kernel
theorem dX4_layFound_183 : decode cX4_layFound 183 = .ok (.goto (-32), 3) := by decide +kernel
theorem dX4_layFound_186 : decode cX4_layFound 186 = .ok (.iload_n 3, 1) := by decide +kernel
theorem dX4_layFound_187 : decode cX4_layFound 187 = .ok (.iconst 2, 1) := by decide +kernel
theorem dX4_layFound_188 : decode cX4_layFound 188 = .ok (.if_icmp .ne 7, 3) := by decide +kernel
theorem dX4_layFound_191 : decode cX4_layFound 191 = .ok (.aload_n 0, 1) := by decide +kernel
theorem dX4_layFound_192 : decode cX4_layFound 192 = .ok (.invokevirtual 141, 3) := by decide +kernel
theorem dX4_layFound_195 : decode cX4_layFound 195 = .ok (.return_, 1) := by decide +kernel
theorem dX4_layComplete_0 : decode cX4_layComplete 0 = .ok (.bipush 29, 2) := by decide +kernel
theorem dX4_layComplete_2 : decode cX4_layComplete 2 = .ok (.istore_n 1, 1) := by decide +kernel
theorem dX4_layComplete_3 : decode cX4_layComplete 3 = .ok (.iload_n 1, 1) := by decide +kernel
theorem dX4_layComplete_4 : decode cX4_layComplete 4 = .ok (.ifCond .lt 61, 3) := by decide +kernel
theorem dX4_layComplete_7 : decode cX4_layComplete 7 = .ok (.aload_n 0, 1) := by decide +kernel
theorem dX4_layComplete_8 : decode cX4_layComplete 8 = .ok (.getfield 41, 3) := by decide +kernel
theorem dX4_layComplete_11 : decode cX4_layComplete 11 = .ok (.iload_n 1, 1) := by decide +kernel
theorem dX4_layComplete_12 : decode cX4_layComplete 12 = .ok (.aload_n 0, 1) := by decide +kernel
theorem dX4_layComplete_13 : decode cX4_layComplete 13 = .ok (.getfield 38, 3) := by decide +kernel
theorem dX4_layComplete_16 : decode cX4_layComplete 16 = .ok (.iload_n 1, 1) := by decide +kernel
theorem dX4_layComplete_17 : decode cX4_layComplete 17 = .ok (.laload, 1) := by decide +kernel
theorem dX4_layComplete_18 : decode cX4_layComplete 18 = .ok (.lastore, 1) := by decide +kernel
theorem dX4_layComplete_19 : decode cX4_layComplete 19 = .ok (.iconst 0, 1) := by decide +kernel
theorem dX4_layComplete_20 : decode cX4_layComplete 20 = .ok (.istore_n 2, 1) := by decide +kernel
theorem dX4_layComplete_21 : decode cX4_layComplete 21 = .ok (.iload_n 2, 1) := by decide +kernel
theorem dX4_layComplete_22 : decode cX4_layComplete 22 = .ok (.iload_n 1, 1) := by decide +kernel
theorem dX4_layComplete_23 : decode cX4_layComplete 23 = .ok (.if_icmp .ge 36, 3) := by decide +kernel
theorem dX4_layComplete_26 : decode cX4_layComplete 26 = .ok (.aload_n 0, 1) := by decide +kernel
theorem dX4_layComplete_27 : decode cX4_layComplete 27 = .ok (.getfield 38, 3) := by decide +kernel
theorem dX4_layComplete_30 : decode cX4_layComplete 30 = .ok (.iload_n 2, 1) := by decide +kernel
theorem dX4_layComplete_31 : decode cX4_layComplete 31 = .ok (.dup2, 1) := by decide +kernel
theorem dX4_layComplete_32 : decode cX4_layComplete 32 = .ok (.laload, 1) := by decide +kernel
theorem dX4_layComplete_33 : decode cX4_layComplete 33 = .ok (.aload_n 0, 1) := by decide +kernel
theorem dX4_layComplete_34 : decode cX4_layComplete 34 = .ok (.getfield 41, 3) := by decide +kernel
theorem dX4_layComplete_37 : decode cX4_layComplete 37 = .ok (.iload_n 1, 1) := by decide +kernel
theorem dX4_layComplete_38 : decode cX4_layComplete 38 = .ok (.laload, 1) := by decide +kernel
theorem dX4_layComplete_39 : decode cX4_layComplete 39 = .ok (.aload_n 0, 1) := by decide +kernel
theorem dX4_layComplete_40 : decode cX4_layComplete 40 = .ok (.getfield 19, 3) := by decide +kernel
theorem dX4_layComplete_43 : decode cX4_layComplete 43 = .ok (.iconst 4, 1) := by decide +kernel
theorem dX4_layComplete_44 : decode cX4_layComplete 44 = .ok (.iload_n 2, 1) := by decide +kernel
theorem dX4_layComplete_45 : decode cX4_layComplete 45 = .ok (.iload_n 1, 1) := by decide +kernel
theorem dX4_layComplete_46 : decode cX4_layComplete 46 = .ok (.invokestatic 75, 3) := by decide +kernel
theorem dX4_layComplete_49 : decode cX4_layComplete 49 = .ok (.laload, 1) := by decide +kernel
theorem dX4_layComplete_50 : decode cX4_layComplete 50 = .ok (.lmul, 1) := by decide +kernel
theorem dX4_layComplete_51 : decode cX4_layComplete 51 = .ok (.lsub, 1) := by decide +kernel
theorem dX4_layComplete_52 : decode cX4_layComplete 52 = .ok (.lastore, 1) := by decide +kernel
theorem dX4_layComplete_53 : decode cX4_layComplete 53 = .ok (.iinc 2 1, 3) := by decide +kernel
theorem dX4_layComplete_56 : decode cX4_layComplete 56 = .ok (.goto (-35), 3) := by decide +kernel
theorem dX4_layComplete_59 : decode cX4_layComplete 59 = .ok (.iinc 1 (-1), 3) := by decide +kernel
theorem dX4_layComplete_62 : decode cX4_layComplete 62 = .ok (.goto (-59), 3) := by decide +kernel
theorem dX4_layComplete_65 : decode cX4_layComplete 65 = .ok (.iconst 0, 1) := by decide +kernel
theorem dX4_layComplete_66 : decode cX4_layComplete 66 = .ok (.istore_n 1, 1) := by decide +kernel
theorem dX4_layComplete_67 : decode cX4_layComplete 67 = .ok (.iload_n 1, 1) := by decide +kernel
theorem dX4_layComplete_68 : decode cX4_layComplete 68 = .ok (.bipush 30, 2) := by decide +kernel
theorem dX4_layComplete_70 : decode cX4_layComplete 70 = .ok (.if_icmp .ge 21, 3) := by decide +kernel
theorem dX4_layComplete_73 : decode cX4_layComplete 73 = .ok (.aload_n 0, 1) := by decide +kernel
theorem dX4_layComplete_74 : decode cX4_layComplete 74 = .ok (.getfield 38, 3) := by decide +kernel
theorem dX4_layComplete_77 : decode cX4_layComplete 77 = .ok (.iload_n 1, 1) := by decide +kernel
theorem dX4_layComplete_78 : decode cX4_layComplete 78 = .ok (.aload_n 0, 1) := by decide +kernel
theorem dX4_layComplete_79 : decode cX4_layComplete 79 = .ok (.getfield 41, 3) := by decide +kernel
theorem dX4_layComplete_82 : decode cX4_layComplete 82 = .ok (.iload_n 1, 1) := by decide +kernel
theorem dX4_layComplete_83 : decode cX4_layComplete 83 = .ok (.laload, 1) := by decide +kernel
theorem dX4_layComplete_84 : decode cX4_layComplete 84 = .ok (.lastore, 1) := by decide +kernel
theorem dX4_layComplete_85 : decode cX4_layComplete 85 = .ok (.iinc 1 1, 3) := by decide +kernel
theorem dX4_layComplete_88 : decode cX4_layComplete 88 = .ok (.goto (-21), 3) := by decide +kernel
theorem dX4_layComplete_91 : decode cX4_layComplete 91 = .ok (.return_, 1) := by decide +kernel
theorem dX4_scalarOf_0 : decode cX4_scalarOf 0 = .ok (.aload_n 0, 1) := by decide +kernel
theorem dX4_scalarOf_1 : decode cX4_scalarOf 1 = .ok (.aload_n 1, 1) := by decide +kernel
theorem dX4_scalarOf_2 : decode cX4_scalarOf 2 = .ok (.iload_n 2, 1) := by decide +kernel
theorem dX4_scalarOf_3 : decode cX4_scalarOf 3 = .ok (.iconst 2, 1) := by decide +kernel
theorem dX4_scalarOf_4 : decode cX4_scalarOf 4 = .ok (.invokevirtual 144, 3) := by decide +kernel
theorem dX4_scalarOf_7 : decode cX4_scalarOf 7 = .ok (.lconst 0, 1) := by decide +kernel
theorem dX4_scalarOf_8 : decode cX4_scalarOf 8 = .ok (.lstore 5, 2) := by decide +kernel
theorem dX4_scalarOf_10 : decode cX4_scalarOf 10 = .ok (.iconst 0, 1) := by decide +kernel
theorem dX4_scalarOf_11 : decode cX4_scalarOf 11 = .ok (.istore 7, 2) := by decide +kernel
theorem dX4_scalarOf_13 : decode cX4_scalarOf 13 = .ok (.iload 7, 2) := by decide +kernel
theorem dX4_scalarOf_15 : decode cX4_scalarOf 15 = .ok (.bipush 30, 2) := by decide +kernel
theorem dX4_scalarOf_17 : decode cX4_scalarOf 17 = .ok (.if_icmp .ge 29, 3) := by decide +kernel
theorem dX4_scalarOf_20 : decode cX4_scalarOf 20 = .ok (.lload 5, 2) := by decide +kernel
theorem dX4_scalarOf_22 : decode cX4_scalarOf 22 = .ok (.aload_n 0, 1) := by decide +kernel
theorem dX4_scalarOf_23 : decode cX4_scalarOf 23 = .ok (.getfield 38, 3) := by decide +kernel
theorem dX4_scalarOf_26 : decode cX4_scalarOf 26 = .ok (.iload 7, 2) := by decide +kernel
theorem dX4_scalarOf_28 : decode cX4_scalarOf 28 = .ok (.laload, 1) := by decide +kernel
theorem dX4_scalarOf_29 : decode cX4_scalarOf 29 = .ok (.aload_n 3, 1) := by decide +kernel
theorem dX4_scalarOf_30 : decode cX4_scalarOf 30 = .ok (.iload 4, 2) := by decide +kernel
theorem dX4_scalarOf_32 : decode cX4_scalarOf 32 = .ok (.iload 7, 2) := by decide +kernel
theorem dX4_scalarOf_34 : decode cX4_scalarOf 34 = .ok (.iadd, 1) := by decide +kernel
theorem dX4_scalarOf_35 : decode cX4_scalarOf 35 = .ok (.laload, 1) := by decide +kernel
theorem dX4_scalarOf_36 : decode cX4_scalarOf 36 = .ok (.lmul, 1) := by decide +kernel
theorem dX4_scalarOf_37 : decode cX4_scalarOf 37 = .ok (.ladd, 1) := by decide +kernel
theorem dX4_scalarOf_38 : decode cX4_scalarOf 38 = .ok (.lstore 5, 2) := by decide +kernel
theorem dX4_scalarOf_40 : decode cX4_scalarOf 40 = .ok (.iinc 7 1, 3) := by decide +kernel
theorem dX4_scalarOf_43 : decode cX4_scalarOf 43 = .ok (.goto (-30), 3) := by decide +kernel
theorem dX4_scalarOf_46 : decode cX4_scalarOf 46 = .ok (.lload 5, 2) := by decide +kernel
theorem dX4_scalarOf_48 : decode cX4_scalarOf 48 = .ok (.lreturn, 1) := by decide +kernel
theorem dX4_character_0 : decode cX4_character 0 = .ok (.iload_n 1, 1) := by decide +kernel
theorem dX4_character_1 : decode cX4_character 1 = .ok (.invokestatic 116, 3) := by decide +kernel
theorem dX4_character_4 : decode cX4_character 4 = .ok (.ifCond .eq 10, 3) := by decide +kernel
theorem dX4_character_7 : decode cX4_character 7 = .ok (.iload_n 2, 1) := by decide +kernel
theorem dX4_character_8 : decode cX4_character 8 = .ok (.invokestatic 116, 3) := by decide +kernel
theorem dX4_character_11 : decode cX4_character 11 = .ok (.ifCond .ne 5, 3) := by decide +kernel
theorem dX4_character_14 : decode cX4_character 14 = .ok (.iconst (-1), 1) := by decide +kernel
theorem dX4_character_15 : decode cX4_character 15 = .ok (.ireturn, 1) := by decide +kernel
theorem dX4_character_16 : decode cX4_character 16 = .ok (.aload_n 0, 1) := by decide +kernel
theorem dX4_character_17 : decode cX4_character 17 = .ok (.invokevirtual 134, 3) := by decide +kernel
theorem dX4_character_20 : decode cX4_character 20 = .ok (.aload_n 0, 1) := by decide +kernel
theorem dX4_character_21 : decode cX4_character 21 = .ok (.aload_n 0, 1) := by decide +kernel
theorem dX4_character_22 : decode cX4_character 22 = .ok (.getfield 19, 3) := by decide +kernel
theorem dX4_character_25 : decode cX4_character 25 = .ok (.iconst 4, 1) := by decide +kernel
theorem dX4_character_26 : decode cX4_character 26 = .ok (.iload_n 1, 1) := by decide +kernel
theorem dX4_character_27 : decode cX4_character 27 = .ok (.iconst 0, 1) := by decide +kernel
theorem dX4_character_28 : decode cX4_character 28 = .ok (.invokestatic 75, 3) := by decide +kernel
theorem dX4_character_31 : decode cX4_character 31 = .ok (.aload_n 0, 1) := by decide +kernel
theorem dX4_character_32 : decode cX4_character 32 = .ok (.getfield 19, 3) := by decide +kernel
theorem dX4_character_35 : decode cX4_character 35 = .ok (.iconst 3, 1) := by decide +kernel
theorem dX4_character_36 : decode cX4_character 36 = .ok (.iload_n 2, 1) := by decide +kernel
theorem dX4_character_37 : decode cX4_character 37 = .ok (.iconst 0, 1) := by decide +kernel
theorem dX4_character_38 : decode cX4_character 38 = .ok (.invokestatic 75, 3) := by decide +kernel
theorem dX4_character_41 : decode cX4_character 41 = .ok (.invokevirtual 148, 3) := by decide +kernel
theorem dX4_character_44 : decode cX4_character 44 = .ok (.l2i, 1) := by decide +kernel
theorem dX4_character_45 : decode cX4_character 45 = .ok (.sipush 1000, 3) := by decide +kernel
theorem dX4_character_48 : decode cX4_character 48 = .ok (.iadd, 1) := by decide +kernel
theorem dX4_character_49 : decode cX4_character 49 = .ok (.ireturn, 1) := by decide +kernel
theorem dX4_clearWork_0 : decode cX4_clearWork 0 = .ok (.iconst 0, 1) := by decide +kernel
theorem dX4_clearWork_1 : decode cX4_clearWork 1 = .ok (.istore_n 1, 1) := by decide +kernel
theorem dX4_clearWork_2 : decode cX4_clearWork 2 = .ok (.iload_n 1, 1) := by decide +kernel
theorem dX4_clearWork_3 : decode cX4_clearWork 3 = .ok (.bipush 30, 2) := by decide +kernel
theorem dX4_clearWork_5 : decode cX4_clearWork 5 = .ok (.if_icmp .ge 16, 3) := by decide +kernel
theorem dX4_clearWork_8 : decode cX4_clearWork 8 = .ok (.aload_n 0, 1) := by decide +kernel
theorem dX4_clearWork_9 : decode cX4_clearWork 9 = .ok (.getfield 44, 3) := by decide +kernel
theorem dX4_clearWork_12 : decode cX4_clearWork 12 = .ok (.iload_n 1, 1) := by decide +kernel
theorem dX4_clearWork_13 : decode cX4_clearWork 13 = .ok (.lconst 0, 1) := by decide +kernel
theorem dX4_clearWork_14 : decode cX4_clearWork 14 = .ok (.lastore, 1) := by decide +kernel
theorem dX4_clearWork_15 : decode cX4_clearWork 15 = .ok (.iinc 1 1, 3) := by decide +kernel
theorem dX4_clearWork_18 : decode cX4_clearWork 18 = .ok (.goto (-16), 3) := by decide +kernel
theorem dX4_clearWork_21 : decode cX4_clearWork 21 = .ok (.return_, 1) := by decide +kernel
theorem dX4_addMember_0 : decode cX4_addMember 0 = .ok (.iconst 0, 1) := by decide +kernel
theorem dX4_addMember_1 : decode cX4_addMember 1 = .ok (.istore 5, 2) := by decide +kernel
theorem dX4_addMember_3 : decode cX4_addMember 3 = .ok (.iload 5, 2) := by decide +kernel
theorem dX4_addMember_5 : decode cX4_addMember 5 = .ok (.bipush 30, 2) := by decide +kernel
theorem dX4_addMember_7 : decode cX4_addMember 7 = .ok (.if_icmp .ge 33, 3) := by decide +kernel
theorem dX4_addMember_10 : decode cX4_addMember 10 = .ok (.aload_n 0, 1) := by decide +kernel
theorem dX4_addMember_11 : decode cX4_addMember 11 = .ok (.getfield 44, 3) := by decide +kernel
theorem dX4_addMember_14 : decode cX4_addMember 14 = .ok (.iload 5, 2) := by decide +kernel
theorem dX4_addMember_16 : decode cX4_addMember 16 = .ok (.dup2, 1) := by decide +kernel
theorem dX4_addMember_17 : decode cX4_addMember 17 = .ok (.laload, 1) := by decide +kernel
theorem dX4_addMember_18 : decode cX4_addMember 18 = .ok (.lload_n 3, 1) := by decide +kernel
theorem dX4_addMember_19 : decode cX4_addMember 19 = .ok (.aload_n 0, 1) := by decide +kernel
theorem dX4_addMember_20 : decode cX4_addMember 20 = .ok (.getfield 19, 3) := by decide +kernel
theorem dX4_addMember_23 : decode cX4_addMember 23 = .ok (.iload_n 1, 1) := by decide +kernel
theorem dX4_addMember_24 : decode cX4_addMember 24 = .ok (.iload_n 2, 1) := by decide +kernel
theorem dX4_addMember_25 : decode cX4_addMember 25 = .ok (.iload 5, 2) := by decide +kernel
theorem dX4_addMember_27 : decode cX4_addMember 27 = .ok (.invokestatic 75, 3) := by decide +kernel
theorem dX4_addMember_30 : decode cX4_addMember 30 = .ok (.laload, 1) := by decide +kernel
theorem dX4_addMember_31 : decode cX4_addMember 31 = .ok (.lmul, 1) := by decide +kernel
theorem dX4_addMember_32 : decode cX4_addMember 32 = .ok (.ladd, 1) := by decide +kernel
theorem dX4_addMember_33 : decode cX4_addMember 33 = .ok (.lastore, 1) := by decide +kernel
theorem dX4_addMember_34 : decode cX4_addMember 34 = .ok (.iinc 5 1, 3) := by decide +kernel
theorem dX4_addMember_37 : decode cX4_addMember 37 = .ok (.goto (-34), 3) := by decide +kernel
theorem dX4_addMember_40 : decode cX4_addMember 40 = .ok (.return_, 1) := by decide +kernel
theorem dX4_keep_0 : decode cX4_keep 0 = .ok (.iconst 0, 1) := by decide +kernel
theorem dX4_keep_1 : decode cX4_keep 1 = .ok (.istore_n 2, 1) := by decide +kernel
theorem dX4_keep_2 : decode cX4_keep 2 = .ok (.iload_n 2, 1) := by decide +kernel
theorem dX4_keep_3 : decode cX4_keep 3 = .ok (.bipush 30, 2) := by decide +kernel
theorem dX4_keep_5 : decode cX4_keep 5 = .ok (.if_icmp .ge 38, 3) := by decide +kernel
theorem dX4_keep_8 : decode cX4_keep 8 = .ok (.aload_n 0, 1) := by decide +kernel
theorem dX4_keep_9 : decode cX4_keep 9 = .ok (.getfield 44, 3) := by decide +kernel
theorem dX4_keep_12 : decode cX4_keep 12 = .ok (.iload_n 2, 1) := by decide +kernel
theorem dX4_keep_13 : decode cX4_keep 13 = .ok (.laload, 1) := by decide +kernel
theorem dX4_keep_14 : decode cX4_keep 14 = .ok (.ldc2_w 152, 3) := by decide +kernel
theorem dX4_keep_17 : decode cX4_keep 17 = .ok (.lcmp, 1) := by decide +kernel
theorem dX4_keep_18 : decode cX4_keep 18 = .ok (.ifCond .gt 16, 3) := by decide +kernel
theorem dX4_keep_21 : decode cX4_keep 21 = .ok (.aload_n 0, 1) := by decide +kernel
theorem dX4_keep_22 : decode cX4_keep 22 = .ok (.getfield 44, 3) := by decide +kernel
theorem dX4_keep_25 : decode cX4_keep 25 = .ok (.iload_n 2, 1) := by decide +kernel
theorem dX4_keep_26 : decode cX4_keep 26 = .ok (.laload, 1) := by decide +kernel
theorem dX4_keep_27 : decode cX4_keep 27 = .ok (.ldc2_w 154, 3) := by decide +kernel
theorem dX4_keep_30 : decode cX4_keep 30 = .ok (.lcmp, 1) := by decide +kernel
theorem dX4_keep_31 : decode cX4_keep 31 = .ok (.ifCond .ge 6, 3) := by decide +kernel
theorem dX4_keep_34 : decode cX4_keep 34 = .ok (.bipush (-4), 2) := by decide +kernel
theorem dX4_keep_36 : decode cX4_keep 36 = .ok (.ireturn, 1) := by decide +kernel
theorem dX4_keep_37 : decode cX4_keep 37 = .ok (.iinc 2 1, 3) := by decide +kernel
theorem dX4_keep_40 : decode cX4_keep 40 = .ok (.goto (-38), 3) := by decide +kernel
theorem dX4_keep_43 : decode cX4_keep 43 = .ok (.iconst 0, 1) := by decide +kernel
theorem dX4_keep_44 : decode cX4_keep 44 = .ok (.istore_n 2, 1) := by decide +kernel
theorem dX4_keep_45 : decode cX4_keep 45 = .ok (.iload_n 2, 1) := by decide +kernel
theorem dX4_keep_46 : decode cX4_keep 46 = .ok (.bipush 30, 2) := by decide +kernel
theorem dX4_keep_48 : decode cX4_keep 48 = .ok (.if_icmp .ge 26, 3) := by decide +kernel
theorem dX4_keep_51 : decode cX4_keep 51 = .ok (.aload_n 0, 1) := by decide +kernel
theorem dX4_keep_52 : decode cX4_keep 52 = .ok (.getfield 23, 3) := by decide +kernel
theorem dX4_keep_55 : decode cX4_keep 55 = .ok (.bipush 30, 2) := by decide +kernel
theorem dX4_keep_57 : decode cX4_keep 57 = .ok (.iload_n 1, 1) := by decide +kernel
theorem dX4_keep_58 : decode cX4_keep 58 = .ok (.imul, 1) := by decide +kernel
theorem dX4_keep_59 : decode cX4_keep 59 = .ok (.iload_n 2, 1) := by decide +kernel
theorem dX4_keep_60 : decode cX4_keep 60 = .ok (.iadd, 1) := by decide +kernel
theorem dX4_keep_61 : decode cX4_keep 61 = .ok (.aload_n 0, 1) := by decide +kernel
theorem dX4_keep_62 : decode cX4_keep 62 = .ok (.getfield 44, 3) := by decide +kernel
theorem dX4_keep_65 : decode cX4_keep 65 = .ok (.iload_n 2, 1) := by decide +kernel
theorem dX4_keep_66 : decode cX4_keep 66 = .ok (.laload, 1) := by decide +kernel
theorem dX4_keep_67 : decode cX4_keep 67 = .ok (.lastore, 1) := by decide +kernel
theorem dX4_keep_68 : decode cX4_keep 68 = .ok (.iinc 2 1, 3) := by decide +kernel
theorem dX4_keep_71 : decode cX4_keep 71 = .ok (.goto (-26), 3) := by decide +kernel
theorem dX4_keep_74 : decode cX4_keep 74 = .ok (.iconst 1, 1) := by decide +kernel
theorem dX4_keep_75 : decode cX4_keep 75 = .ok (.ireturn, 1) := by decide +kernel
theorem dX4_put_0 : decode cX4_put 0 = .ok (.iload_n 1, 1) := by decide +kernel
theorem dX4_put_1 : decode cX4_put 1 = .ok (.invokestatic 156, 3) := by decide +kernel
theorem dX4_put_4 : decode cX4_put 4 = .ok (.ifCond .eq 19, 3) := by decide +kernel
theorem dX4_put_7 : decode cX4_put 7 = .ok (.iload_n 2, 1) := by decide +kernel
theorem dX4_put_8 : decode cX4_put 8 = .ok (.iconst 0, 1) := by decide +kernel
theorem dX4_put_9 : decode cX4_put 9 = .ok (.iconst 4, 1) := by decide +kernel
theorem dX4_put_10 : decode cX4_put 10 = .ok (.invokestatic 101, 3) := by decide +kernel
theorem dX4_put_13 : decode cX4_put 13 = .ok (.ifCond .eq 10, 3) := by decide +kernel
theorem dX4_put_16 : decode cX4_put 16 = .ok (.iload_n 3, 1) := by decide +kernel
theorem dX4_put_17 : decode cX4_put 17 = .ok (.invokestatic 116, 3) := by decide +kernel
theorem dX4_put_20 : decode cX4_put 20 = .ok (.ifCond .ne 5, 3) := by decide +kernel
theorem dX4_put_23 : decode cX4_put 23 = .ok (.iconst (-1), 1) := by decide +kernel
theorem dX4_put_24 : decode cX4_put 24 = .ok (.ireturn, 1) := by decide +kernel
theorem dX4_put_25 : decode cX4_put 25 = .ok (.iload 4, 2) := by decide +kernel
theorem dX4_put_27 : decode cX4_put 27 = .ok (.sipush (-1000), 3) := by decide +kernel
theorem dX4_put_30 : decode cX4_put 30 = .ok (.sipush 1000, 3) := by decide +kernel
theorem dX4_put_33 : decode cX4_put 33 = .ok (.invokestatic 101, 3) := by decide +kernel
theorem dX4_put_36 : decode cX4_put 36 = .ok (.ifCond .ne 6, 3) := by decide +kernel
theorem dX4_put_39 : decode cX4_put 39 = .ok (.bipush (-2), 2) := by decide +kernel
theorem dX4_put_41 : decode cX4_put 41 = .ok (.ireturn, 1) := by decide +kernel
theorem dX4_put_42 : decode cX4_put 42 = .ok (.iload_n 2, 1) := by decide +kernel
theorem dX4_put_43 : decode cX4_put 43 = .ok (.iconst 4, 1) := by decide +kernel
theorem dX4_put_44 : decode cX4_put 44 = .ok (.if_icmp .ne 7, 3) := by decide +kernel
theorem dX4_put_47 : decode cX4_put 47 = .ok (.aload_n 0, 1) := by decide +kernel
theorem dX4_put_48 : decode cX4_put 48 = .ok (.invokevirtual 134, 3) := by decide +kernel
theorem dX4_put_51 : decode cX4_put 51 = .ok (.aload_n 0, 1) := by decide +kernel
theorem dX4_put_52 : decode cX4_put 52 = .ok (.invokevirtual 159, 3) := by decide +kernel
theorem dX4_put_55 : decode cX4_put 55 = .ok (.aload_n 0, 1) := by decide +kernel
theorem dX4_put_56 : decode cX4_put 56 = .ok (.iload_n 2, 1) := by decide +kernel
theorem dX4_put_57 : decode cX4_put 57 = .ok (.iload_n 3, 1) := by decide +kernel
theorem dX4_put_58 : decode cX4_put 58 = .ok (.iload 4, 2) := by decide +kernel
theorem dX4_put_60 : decode cX4_put 60 = .ok (.i2l, 1) := by decide +kernel
theorem dX4_put_61 : decode cX4_put 61 = .ok (.invokevirtual 162, 3) := by decide +kernel
theorem dX4_put_64 : decode cX4_put 64 = .ok (.aload_n 0, 1) := by decide +kernel
theorem dX4_put_65 : decode cX4_put 65 = .ok (.iload_n 1, 1) := by decide +kernel
theorem dX4_put_66 : decode cX4_put 66 = .ok (.invokevirtual 165, 3) := by decide +kernel
theorem dX4_put_69 : decode cX4_put 69 = .ok (.ireturn, 1) := by decide +kernel
theorem dX4_add_0 : decode cX4_add 0 = .ok (.iload_n 1, 1) := by decide +kernel
theorem dX4_add_1 : decode cX4_add 1 = .ok (.invokestatic 156, 3) := by decide +kernel
theorem dX4_add_4 : decode cX4_add 4 = .ok (.ifCond .eq 10, 3) := by decide +kernel
theorem dX4_add_7 : decode cX4_add 7 = .ok (.iload_n 2, 1) := by decide +kernel
theorem dX4_add_8 : decode cX4_add 8 = .ok (.invokestatic 156, 3) := by decide +kernel
theorem dX4_add_11 : decode cX4_add 11 = .ok (.ifCond .ne 5, 3) := by decide +kernel
theorem dX4_add_14 : decode cX4_add 14 = .ok (.iconst (-1), 1) := by decide +kernel
theorem dX4_add_15 : decode cX4_add 15 = .ok (.ireturn, 1) := by decide +kernel
theorem dX4_add_16 : decode cX4_add 16 = .ok (.iload_n 3, 1) := by decide +kernel
theorem dX4_add_17 : decode cX4_add 17 = .ok (.sipush (-1000), 3) := by decide +kernel
theorem dX4_add_20 : decode cX4_add 20 = .ok (.sipush 1000, 3) := by decide +kernel
theorem dX4_add_23 : decode cX4_add 23 = .ok (.invokestatic 101, 3) := by decide +kernel
theorem dX4_add_26 : decode cX4_add 26 = .ok (.ifCond .ne 6, 3) := by decide +kernel
theorem dX4_add_29 : decode cX4_add 29 = .ok (.bipush (-2), 2) := by decide +kernel
theorem dX4_add_31 : decode cX4_add 31 = .ok (.ireturn, 1) := by decide +kernel
theorem dX4_add_32 : decode cX4_add 32 = .ok (.iconst 0, 1) := by decide +kernel
theorem dX4_add_33 : decode cX4_add 33 = .ok (.istore 4, 2) := by decide +kernel
theorem dX4_add_35 : decode cX4_add 35 = .ok (.iload 4, 2) := by decide +kernel
theorem dX4_add_37 : decode cX4_add 37 = .ok (.bipush 30, 2) := by decide +kernel
theorem dX4_add_39 : decode cX4_add 39 = .ok (.if_icmp .ge 44, 3) := by decide +kernel
theorem dX4_add_42 : decode cX4_add 42 = .ok (.aload_n 0, 1) := by decide +kernel
theorem dX4_add_43 : decode cX4_add 43 = .ok (.getfield 44, 3) := by decide +kernel
theorem dX4_add_46 : decode cX4_add 46 = .ok (.iload 4, 2) := by decide +kernel
theorem dX4_add_48 : decode cX4_add 48 = .ok (.aload_n 0, 1) := by decide +kernel
theorem dX4_add_49 : decode cX4_add 49 = .ok (.getfield 23, 3) := by decide +kernel
theorem dX4_add_52 : decode cX4_add 52 = .ok (.bipush 30, 2) := by decide +kernel
theorem dX4_add_54 : decode cX4_add 54 = .ok (.iload_n 1, 1) := by decide +kernel
theorem dX4_add_55 : decode cX4_add 55 = .ok (.imul, 1) := by decide +kernel
theorem dX4_add_56 : decode cX4_add 56 = .ok (.iload 4, 2) := by decide +kernel
theorem dX4_add_58 : decode cX4_add 58 = .ok (.iadd, 1) := by decide +kernel
theorem dX4_add_59 : decode cX4_add 59 = .ok (.laload, 1) := by decide +kernel
theorem dX4_add_60 : decode cX4_add 60 = .ok (.iload_n 3, 1) := by decide +kernel
theorem dX4_add_61 : decode cX4_add 61 = .ok (.i2l, 1) := by decide +kernel
theorem dX4_add_62 : decode cX4_add 62 = .ok (.aload_n 0, 1) := by decide +kernel
theorem dX4_add_63 : decode cX4_add 63 = .ok (.getfield 23, 3) := by decide +kernel
theorem dX4_add_66 : decode cX4_add 66 = .ok (.bipush 30, 2) := by decide +kernel
theorem dX4_add_68 : decode cX4_add 68 = .ok (.iload_n 2, 1) := by decide +kernel
theorem dX4_add_69 : decode cX4_add 69 = .ok (.imul, 1) := by decide +kernel
theorem dX4_add_70 : decode cX4_add 70 = .ok (.iload 4, 2) := by decide +kernel
theorem dX4_add_72 : decode cX4_add 72 = .ok (.iadd, 1) := by decide +kernel
theorem dX4_add_73 : decode cX4_add 73 = .ok (.laload, 1) := by decide +kernel
theorem dX4_add_74 : decode cX4_add 74 = .ok (.lmul, 1) := by decide +kernel
theorem dX4_add_75 : decode cX4_add 75 = .ok (.ladd, 1) := by decide +kernel
theorem dX4_add_76 : decode cX4_add 76 = .ok (.lastore, 1) := by decide +kernel
theorem dX4_add_77 : decode cX4_add 77 = .ok (.iinc 4 1, 3) := by decide +kernel
theorem dX4_add_80 : decode cX4_add 80 = .ok (.goto (-45), 3) := by decide +kernel
theorem dX4_add_83 : decode cX4_add 83 = .ok (.aload_n 0, 1) := by decide +kernel
theorem dX4_add_84 : decode cX4_add 84 = .ok (.iload_n 1, 1) := by decide +kernel
theorem dX4_add_85 : decode cX4_add 85 = .ok (.invokevirtual 165, 3) := by decide +kernel
theorem dX4_add_88 : decode cX4_add 88 = .ok (.ireturn, 1) := by decide +kernel
theorem dX4_degreeOf_0 : decode cX4_degreeOf 0 = .ok (.bipush (-6), 2) := by decide +kernel
theorem dX4_degreeOf_2 : decode cX4_degreeOf 2 = .ok (.istore_n 2, 1) := by decide +kernel
theorem dX4_degreeOf_3 : decode cX4_degreeOf 3 = .ok (.iconst 0, 1) := by decide +kernel
theorem dX4_degreeOf_4 : decode cX4_degreeOf 4 = .ok (.istore_n 3, 1) := by decide +kernel
theorem dX4_degreeOf_5 : decode cX4_degreeOf 5 = .ok (.iload_n 3, 1) := by decide +kernel
theorem dX4_degreeOf_6 : decode cX4_degreeOf 6 = .ok (.bipush 30, 2) := by decide +kernel
theorem dX4_degreeOf_8 : decode cX4_degreeOf 8 = .ok (.if_icmp .ge 36, 3) := by decide +kernel
theorem dX4_degreeOf_11 : decode cX4_degreeOf 11 = .ok (.aload_n 0, 1) := by decide +kernel
theorem dX4_degreeOf_12 : decode cX4_degreeOf 12 = .ok (.getfield 23, 3) := by decide +kernel
theorem dX4_degreeOf_15 : decode cX4_degreeOf 15 = .ok (.bipush 30, 2) := by decide +kernel
theorem dX4_degreeOf_17 : decode cX4_degreeOf 17 = .ok (.iload_n 1, 1) := by decide +kernel
theorem dX4_degreeOf_18 : decode cX4_degreeOf 18 = .ok (.imul, 1) := by decide +kernel
theorem dX4_degreeOf_19 : decode cX4_degreeOf 19 = .ok (.iload_n 3, 1) := by decide +kernel
theorem dX4_degreeOf_20 : decode cX4_degreeOf 20 = .ok (.iadd, 1) := by decide +kernel
theorem dX4_degreeOf_21 : decode cX4_degreeOf 21 = .ok (.laload, 1) := by decide +kernel
theorem dX4_degreeOf_22 : decode cX4_degreeOf 22 = .ok (.lconst 0, 1) := by decide +kernel
theorem dX4_degreeOf_23 : decode cX4_degreeOf 23 = .ok (.lcmp, 1) := by decide +kernel
theorem dX4_degreeOf_24 : decode cX4_degreeOf 24 = .ok (.ifCond .eq 12, 3) := by decide +kernel
theorem dX4_degreeOf_27 : decode cX4_degreeOf 27 = .ok (.aload_n 0, 1) := by decide +kernel
theorem dX4_degreeOf_28 : decode cX4_degreeOf 28 = .ok (.getfield 13, 3) := by decide +kernel
theorem dX4_degreeOf_31 : decode cX4_degreeOf 31 = .ok (.iload_n 3, 1) := by decide +kernel
theorem dX4_degreeOf_32 : decode cX4_degreeOf 32 = .ok (.iaload, 1) := by decide +kernel
theorem dX4_degreeOf_33 : decode cX4_degreeOf 33 = .ok (.goto 4, 3) := by decide +kernel
theorem dX4_degreeOf_36 : decode cX4_degreeOf 36 = .ok (.iload_n 2, 1) := by decide +kernel
theorem dX4_degreeOf_37 : decode cX4_degreeOf 37 = .ok (.istore_n 2, 1) := by decide +kernel
theorem dX4_degreeOf_38 : decode cX4_degreeOf 38 = .ok (.iinc 3 1, 3) := by decide +kernel
theorem dX4_degreeOf_41 : decode cX4_degreeOf 41 = .ok (.goto (-36), 3) := by decide +kernel
theorem dX4_degreeOf_44 : decode cX4_degreeOf 44 = .ok (.iload_n 2, 1) := by decide +kernel
theorem dX4_degreeOf_45 : decode cX4_degreeOf 45 = .ok (.ireturn, 1) := by decide +kernel
theorem dX4_degree_0 : decode cX4_degree 0 = .ok (.iload_n 1, 1) := by decide +kernel
theorem dX4_degree_1 : decode cX4_degree 1 = .ok (.invokestatic 156, 3) := by decide +kernel
theorem dX4_degree_4 : decode cX4_degree 4 = .ok (.ifCond .eq 11, 3) := by decide +kernel
theorem dX4_degree_7 : decode cX4_degree 7 = .ok (.aload_n 0, 1) := by decide +kernel
theorem dX4_degree_8 : decode cX4_degree 8 = .ok (.iload_n 1, 1) := by decide +kernel
theorem dX4_degree_9 : decode cX4_degree 9 = .ok (.invokevirtual 168, 3) := by decide +kernel
theorem dX4_degree_12 : decode cX4_degree 12 = .ok (.goto 4, 3) := by decide +kernel
theorem dX4_degree_15 : decode cX4_degree 15 = .ok (.iconst (-1), 1) := by decide +kernel
theorem dX4_degree_16 : decode cX4_degree 16 = .ok (.ireturn, 1) := by decide +kernel
theorem dX4_common_0 : decode cX4_common 0 = .ok (.lload_n 0, 1) := by decide +kernel
theorem dX4_common_1 : decode cX4_common 1 = .ok (.lconst 0, 1) := by decide +kernel
theorem dX4_common_2 : decode cX4_common 2 = .ok (.lcmp, 1) := by decide +kernel
theorem dX4_common_3 : decode cX4_common 3 = .ok (.ifCond .ge 8, 3) := by decide +kernel
theorem dX4_common_6 : decode cX4_common 6 = .ok (.lload_n 0, 1) := by decide +kernel
theorem dX4_common_7 : decode cX4_common 7 = .ok (.lneg, 1) := by decide +kernel
theorem dX4_common_8 : decode cX4_common 8 = .ok (.goto 4, 3) := by decide +kernel
theorem dX4_common_11 : decode cX4_common 11 = .ok (.lload_n 0, 1) := by decide +kernel
theorem dX4_common_12 : decode cX4_common 12 = .ok (.lstore 4, 2) := by decide +kernel
theorem dX4_common_14 : decode cX4_common 14 = .ok (.lload_n 2, 1) := by decide +kernel
theorem dX4_common_15 : decode cX4_common 15 = .ok (.lstore 6, 2) := by decide +kernel
theorem dX4_common_17 : decode cX4_common 17 = .ok (.iconst 0, 1) := by decide +kernel
theorem dX4_common_18 : decode cX4_common 18 = .ok (.istore 8, 2) := by decide +kernel
theorem dX4_common_20 : decode cX4_common 20 = .ok (.iload 8, 2) := by decide +kernel
theorem dX4_common_22 : decode cX4_common 22 = .ok (.sipush 200, 3) := by decide +kernel
theorem dX4_common_25 : decode cX4_common 25 = .ok (.if_icmp .ge 31, 3) := by decide +kernel
theorem dX4_common_28 : decode cX4_common 28 = .ok (.lload 6, 2) := by decide +kernel
theorem dX4_common_30 : decode cX4_common 30 = .ok (.lconst 0, 1) := by decide +kernel
theorem dX4_common_31 : decode cX4_common 31 = .ok (.lcmp, 1) := by decide +kernel
theorem dX4_common_32 : decode cX4_common 32 = .ok (.ifCond .eq 24, 3) := by decide +kernel
theorem dX4_common_35 : decode cX4_common 35 = .ok (.lload 4, 2) := by decide +kernel
theorem dX4_common_37 : decode cX4_common 37 = .ok (.lload 6, 2) := by decide +kernel
theorem dX4_common_39 : decode cX4_common 39 = .ok (.lrem, 1) := by decide +kernel
theorem dX4_common_40 : decode cX4_common 40 = .ok (.lstore 9, 2) := by decide +kernel
theorem dX4_common_42 : decode cX4_common 42 = .ok (.lload 6, 2) := by decide +kernel
theorem dX4_common_44 : decode cX4_common 44 = .ok (.lstore 4, 2) := by decide +kernel
theorem dX4_common_46 : decode cX4_common 46 = .ok (.lload 9, 2) := by decide +kernel
theorem dX4_common_48 : decode cX4_common 48 = .ok (.lstore 6, 2) := by decide +kernel
theorem dX4_common_50 : decode cX4_common 50 = .ok (.iinc 8 1, 3) := by decide +kernel
theorem dX4_common_53 : decode cX4_common 53 = .ok (.goto (-33), 3) := by decide +kernel
theorem dX4_common_56 : decode cX4_common 56 = .ok (.lload 4, 2) := by decide +kernel
theorem dX4_common_58 : decode cX4_common 58 = .ok (.lreturn, 1) := by decide +kernel
theorem dX4_coefficient_0 : decode cX4_coefficient 0 = .ok (.iload_n 1, 1) := by decide +kernel
theorem dX4_coefficient_1 : decode cX4_coefficient 1 = .ok (.invokestatic 156, 3) := by decide +kernel
theorem dX4_coefficient_4 : decode cX4_coefficient 4 = .ok (.ifCond .eq 19, 3) := by decide +kernel
theorem dX4_coefficient_7 : decode cX4_coefficient 7 = .ok (.iload_n 2, 1) := by decide +kernel
theorem dX4_coefficient_8 : decode cX4_coefficient 8 = .ok (.iconst 0, 1) := by decide +kernel
theorem dX4_coefficient_9 : decode cX4_coefficient 9 = .ok (.iconst 4, 1) := by decide +kernel
theorem dX4_coefficient_10 : decode cX4_coefficient 10 = .ok (.invokestatic 101, 3) := by decide +kernel
theorem dX4_coefficient_13 : decode cX4_coefficient 13 = .ok (.ifCond .eq 10, 3) := by decide +kernel
theorem dX4_coefficient_16 : decode cX4_coefficient 16 = .ok (.iload_n 3, 1) := by decide +kernel
theorem dX4_coefficient_17 : decode cX4_coefficient 17 = .ok (.invokestatic 116, 3) := by decide +kernel
theorem dX4_coefficient_20 : decode cX4_coefficient 20 = .ok (.ifCond .ne 7, 3) := by decide +kernel
theorem dX4_coefficient_23 : decode cX4_coefficient 23 = .ok (.ldc2_w 171, 3) := by decide +kernel
theorem dX4_coefficient_26 : decode cX4_coefficient 26 = .ok (.lreturn, 1) := by decide +kernel
theorem dX4_coefficient_27 : decode cX4_coefficient 27 = .ok (.iload 4, 2) := by decide +kernel
theorem dX4_coefficient_29 : decode cX4_coefficient 29 = .ok (.iconst 0, 1) := by decide +kernel
theorem dX4_coefficient_30 : decode cX4_coefficient 30 = .ok (.iconst 1, 1) := by decide +kernel
theorem dX4_coefficient_31 : decode cX4_coefficient 31 = .ok (.invokestatic 101, 3) := by decide +kernel
theorem dX4_coefficient_34 : decode cX4_coefficient 34 = .ok (.ifCond .ne 7, 3) := by decide +kernel
theorem dX4_coefficient_37 : decode cX4_coefficient 37 = .ok (.ldc2_w 173, 3) := by decide +kernel
theorem dX4_coefficient_40 : decode cX4_coefficient 40 = .ok (.lreturn, 1) := by decide +kernel
theorem dX4_coefficient_41 : decode cX4_coefficient 41 = .ok (.aload_n 0, 1) := by decide +kernel
theorem dX4_coefficient_42 : decode cX4_coefficient 42 = .ok (.aload_n 0, 1) := by decide +kernel
theorem dX4_coefficient_43 : decode cX4_coefficient 43 = .ok (.getfield 23, 3) := by decide +kernel
theorem dX4_coefficient_46 : decode cX4_coefficient 46 = .ok (.bipush 30, 2) := by decide +kernel
theorem dX4_coefficient_48 : decode cX4_coefficient 48 = .ok (.iload_n 1, 1) := by decide +kernel
theorem dX4_coefficient_49 : decode cX4_coefficient 49 = .ok (.imul, 1) := by decide +kernel
theorem dX4_coefficient_50 : decode cX4_coefficient 50 = .ok (.iload_n 2, 1) := by decide +kernel
theorem dX4_coefficient_51 : decode cX4_coefficient 51 = .ok (.invokevirtual 144, 3) := by decide +kernel
theorem dX4_coefficient_54 : decode cX4_coefficient 54 = .ok (.iload_n 2, 1) := by decide +kernel
theorem dX4_coefficient_55 : decode cX4_coefficient 55 = .ok (.iconst 3, 1) := by decide +kernel
theorem dX4_coefficient_56 : decode cX4_coefficient 56 = .ok (.if_icmp .ne 9, 3) := by decide +kernel
theorem dX4_coefficient_59 : decode cX4_coefficient 59 = .ok (.ldc2_w 132, 3) := by decide +kernel
theorem dX4_coefficient_62 : decode cX4_coefficient 62 = .ok (.goto 4, 3) := by decide +kernel
theorem dX4_coefficient_65 : decode cX4_coefficient 65 = .ok (.lconst 1, 1) := by decide +kernel
theorem dX4_coefficient_66 : decode cX4_coefficient 66 = .ok (.lstore 5, 2) := by decide +kernel
theorem dX4_coefficient_68 : decode cX4_coefficient 68 = .ok (.aload_n 0, 1) := by decide +kernel
theorem dX4_coefficient_69 : decode cX4_coefficient 69 = .ok (.getfield 38, 3) := by decide +kernel
theorem dX4_coefficient_72 : decode cX4_coefficient 72 = .ok (.iload_n 3, 1) := by decide +kernel
theorem dX4_coefficient_73 : decode cX4_coefficient 73 = .ok (.laload, 1) := by decide +kernel
theorem dX4_coefficient_74 : decode cX4_coefficient 74 = .ok (.lload 5, 2) := by decide +kernel
theorem dX4_coefficient_76 : decode cX4_coefficient 76 = .ok (.invokestatic 175, 3) := by decide +kernel
theorem dX4_coefficient_79 : decode cX4_coefficient 79 = .ok (.lstore 7, 2) := by decide +kernel
theorem dX4_coefficient_81 : decode cX4_coefficient 81 = .ok (.iload 4, 2) := by decide +kernel
theorem dX4_coefficient_83 : decode cX4_coefficient 83 = .ok (.ifCond .ne 15, 3) := by decide +kernel
theorem dX4_coefficient_86 : decode cX4_coefficient 86 = .ok (.aload_n 0, 1) := by decide +kernel
theorem dX4_coefficient_87 : decode cX4_coefficient 87 = .ok (.getfield 38, 3) := by decide +kernel
theorem dX4_coefficient_90 : decode cX4_coefficient 90 = .ok (.iload_n 3, 1) := by decide +kernel
theorem dX4_coefficient_91 : decode cX4_coefficient 91 = .ok (.laload, 1) := by decide +kernel
theorem dX4_coefficient_92 : decode cX4_coefficient 92 = .ok (.lload 7, 2) := by decide +kernel
theorem dX4_coefficient_94 : decode cX4_coefficient 94 = .ok (.ldiv, 1) := by decide +kernel
theorem dX4_coefficient_95 : decode cX4_coefficient 95 = .ok (.goto 8, 3) := by decide +kernel
theorem dX4_coefficient_98 : decode cX4_coefficient 98 = .ok (.lload 5, 2) := by decide +kernel
theorem dX4_coefficient_100 : decode cX4_coefficient 100 = .ok (.lload 7, 2) := by decide +kernel
theorem dX4_coefficient_102 : decode cX4_coefficient 102 = .ok (.ldiv, 1) := by decide +kernel
theorem dX4_coefficient_103 : decode cX4_coefficient 103 = .ok (.lreturn, 1) := by decide +kernel
theorem dX4_next_0 : decode cX4_next 0 = .ok (.iload_n 1, 1) := by decide +kernel
theorem dX4_next_1 : decode cX4_next 1 = .ok (.invokestatic 156, 3) := by decide +kernel
theorem dX4_next_4 : decode cX4_next 4 = .ok (.ifCond .eq 12, 3) := by decide +kernel
theorem dX4_next_7 : decode cX4_next 7 = .ok (.iload_n 2, 1) := by decide +kernel
theorem dX4_next_8 : decode cX4_next 8 = .ok (.iconst 0, 1) := by decide +kernel
theorem dX4_next_9 : decode cX4_next 9 = .ok (.iconst 4, 1) := by decide +kernel
theorem dX4_next_10 : decode cX4_next 10 = .ok (.invokestatic 101, 3) := by decide +kernel
theorem dX4_next_13 : decode cX4_next 13 = .ok (.ifCond .ne 5, 3) := by decide +kernel
theorem dX4_next_16 : decode cX4_next 16 = .ok (.iconst (-1), 1) := by decide +kernel
theorem dX4_next_17 : decode cX4_next 17 = .ok (.ireturn, 1) := by decide +kernel
theorem dX4_next_18 : decode cX4_next 18 = .ok (.iload_n 3, 1) := by decide +kernel
theorem dX4_next_19 : decode cX4_next 19 = .ok (.iconst 0, 1) := by decide +kernel
theorem dX4_next_20 : decode cX4_next 20 = .ok (.bipush 30, 2) := by decide +kernel
theorem dX4_next_22 : decode cX4_next 22 = .ok (.invokestatic 101, 3) := by decide +kernel
theorem dX4_next_25 : decode cX4_next 25 = .ok (.ifCond .ne 6, 3) := by decide +kernel
theorem dX4_next_28 : decode cX4_next 28 = .ok (.bipush (-2), 2) := by decide +kernel
theorem dX4_next_30 : decode cX4_next 30 = .ok (.ireturn, 1) := by decide +kernel
theorem dX4_next_31 : decode cX4_next 31 = .ok (.aload_n 0, 1) := by decide +kernel
theorem dX4_next_32 : decode cX4_next 32 = .ok (.aload_n 0, 1) := by decide +kernel
theorem dX4_next_33 : decode cX4_next 33 = .ok (.getfield 23, 3) := by decide +kernel
theorem dX4_next_36 : decode cX4_next 36 = .ok (.bipush 30, 2) := by decide +kernel
theorem dX4_next_38 : decode cX4_next 38 = .ok (.iload_n 1, 1) := by decide +kernel
theorem dX4_next_39 : decode cX4_next 39 = .ok (.imul, 1) := by decide +kernel
theorem dX4_next_40 : decode cX4_next 40 = .ok (.iload_n 2, 1) := by decide +kernel
theorem dX4_next_41 : decode cX4_next 41 = .ok (.invokevirtual 144, 3) := by decide +kernel
theorem dX4_next_44 : decode cX4_next 44 = .ok (.bipush (-6), 2) := by decide +kernel
theorem dX4_next_46 : decode cX4_next 46 = .ok (.istore 4, 2) := by decide +kernel
theorem dX4_next_48 : decode cX4_next 48 = .ok (.bipush 29, 2) := by decide +kernel
theorem dX4_next_50 : decode cX4_next 50 = .ok (.istore 5, 2) := by decide +kernel
theorem dX4_next_52 : decode cX4_next 52 = .ok (.iload 5, 2) := by decide +kernel
theorem dX4_next_54 : decode cX4_next 54 = .ok (.iload_n 3, 1) := by decide +kernel
theorem dX4_next_55 : decode cX4_next 55 = .ok (.if_icmp .lt 30, 3) := by decide +kernel
theorem dX4_next_58 : decode cX4_next 58 = .ok (.aload_n 0, 1) := by decide +kernel
theorem dX4_next_59 : decode cX4_next 59 = .ok (.getfield 38, 3) := by decide +kernel
theorem dX4_next_62 : decode cX4_next 62 = .ok (.iload 5, 2) := by decide +kernel
theorem dX4_next_64 : decode cX4_next 64 = .ok (.laload, 1) := by decide +kernel
theorem dX4_next_65 : decode cX4_next 65 = .ok (.lconst 0, 1) := by decide +kernel
theorem dX4_next_66 : decode cX4_next 66 = .ok (.lcmp, 1) := by decide +kernel
theorem dX4_next_67 : decode cX4_next 67 = .ok (.ifCond .eq 8, 3) := by decide +kernel
theorem dX4_next_70 : decode cX4_next 70 = .ok (.iload 5, 2) := by decide +kernel
theorem dX4_next_72 : decode cX4_next 72 = .ok (.goto 5, 3) := by decide +kernel
theorem dX4_next_75 : decode cX4_next 75 = .ok (.iload 4, 2) := by decide +kernel
theorem dX4_next_77 : decode cX4_next 77 = .ok (.istore 4, 2) := by decide +kernel
theorem dX4_next_79 : decode cX4_next 79 = .ok (.iinc 5 (-1), 3) := by decide +kernel
theorem dX4_next_82 : decode cX4_next 82 = .ok (.goto (-30), 3) := by decide +kernel
theorem dX4_next_85 : decode cX4_next 85 = .ok (.iload 4, 2) := by decide +kernel
theorem dX4_next_87 : decode cX4_next 87 = .ok (.ireturn, 1) := by decide +kernel
theorem dX4_power_0 : decode cX4_power 0 = .ok (.lconst 1, 1) := by decide +kernel
theorem dX4_power_1 : decode cX4_power 1 = .ok (.lstore_n 2, 1) := by decide +kernel
theorem dX4_power_2 : decode cX4_power 2 = .ok (.iconst 0, 1) := by decide +kernel
theorem dX4_power_3 : decode cX4_power 3 = .ok (.istore 4, 2) := by decide +kernel
theorem dX4_power_5 : decode cX4_power 5 = .ok (.iload 4, 2) := by decide +kernel
theorem dX4_power_7 : decode cX4_power 7 = .ok (.iload_n 1, 1) := by decide +kernel
theorem dX4_power_8 : decode cX4_power 8 = .ok (.if_icmp .ge 14, 3) := by decide +kernel
theorem dX4_power_11 : decode cX4_power 11 = .ok (.lload_n 2, 1) := by decide +kernel
theorem dX4_power_12 : decode cX4_power 12 = .ok (.iload_n 0, 1) := by decide +kernel
theorem dX4_power_13 : decode cX4_power 13 = .ok (.i2l, 1) := by decide +kernel
theorem dX4_power_14 : decode cX4_power 14 = .ok (.lmul, 1) := by decide +kernel
theorem dX4_power_15 : decode cX4_power 15 = .ok (.lstore_n 2, 1) := by decide +kernel
theorem dX4_power_16 : decode cX4_power 16 = .ok (.iinc 4 1, 3) := by decide +kernel
theorem dX4_power_19 : decode cX4_power 19 = .ok (.goto (-14), 3) := by decide +kernel
theorem dX4_power_22 : decode cX4_power 22 = .ok (.lload_n 2, 1) := by decide +kernel
theorem dX4_power_23 : decode cX4_power 23 = .ok (.lreturn, 1) := by decide +kernel
theorem dX4_value_0 : decode cX4_value 0 = .ok (.iload_n 1, 1) := by decide +kernel
theorem dX4_value_1 : decode cX4_value 1 = .ok (.invokestatic 156, 3) := by decide +kernel
theorem dX4_value_4 : decode cX4_value 4 = .ok (.ifCond .ne 7, 3) := by decide +kernel
theorem dX4_value_7 : decode cX4_value 7 = .ok (.ldc2_w 171, 3) := by decide +kernel
theorem dX4_value_10 : decode cX4_value 10 = .ok (.lreturn, 1) := by decide +kernel
theorem dX4_value_11 : decode cX4_value 11 = .ok (.iload_n 2, 1) := by decide +kernel
theorem dX4_value_12 : decode cX4_value 12 = .ok (.bipush (-9), 2) := by decide +kernel
theorem dX4_value_14 : decode cX4_value 14 = .ok (.bipush 9, 2) := by decide +kernel
theorem dX4_value_16 : decode cX4_value 16 = .ok (.invokestatic 101, 3) := by decide +kernel
theorem dX4_value_19 : decode cX4_value 19 = .ok (.ifCond .eq 26, 3) := by decide +kernel
theorem dX4_value_22 : decode cX4_value 22 = .ok (.iload_n 3, 1) := by decide +kernel
theorem dX4_value_23 : decode cX4_value 23 = .ok (.bipush (-9), 2) := by decide +kernel
theorem dX4_value_25 : decode cX4_value 25 = .ok (.bipush 9, 2) := by decide +kernel
theorem dX4_value_27 : decode cX4_value 27 = .ok (.invokestatic 101, 3) := by decide +kernel
theorem dX4_value_30 : decode cX4_value 30 = .ok (.ifCond .eq 15, 3) := by decide +kernel
theorem dX4_value_33 : decode cX4_value 33 = .ok (.iload 4, 2) := by decide +kernel
theorem dX4_value_35 : decode cX4_value 35 = .ok (.bipush (-9), 2) := by decide +kernel
theorem dX4_value_37 : decode cX4_value 37 = .ok (.bipush 9, 2) := by decide +kernel
theorem dX4_value_39 : decode cX4_value 39 = .ok (.invokestatic 101, 3) := by decide +kernel
theorem dX4_value_42 : decode cX4_value 42 = .ok (.ifCond .ne 7, 3) := by decide +kernel
theorem dX4_value_45 : decode cX4_value 45 = .ok (.ldc2_w 173, 3) := by decide +kernel
theorem dX4_value_48 : decode cX4_value 48 = .ok (.lreturn, 1) := by decide +kernel
theorem dX4_value_49 : decode cX4_value 49 = .ok (.lconst 0, 1) := by decide +kernel
theorem dX4_value_50 : decode cX4_value 50 = .ok (.lstore 5, 2) := by decide +kernel
theorem dX4_value_52 : decode cX4_value 52 = .ok (.iconst 0, 1) := by decide +kernel
theorem dX4_value_53 : decode cX4_value 53 = .ok (.istore 7, 2) := by decide +kernel
theorem dX4_value_55 : decode cX4_value 55 = .ok (.iload 7, 2) := by decide +kernel
theorem dX4_value_57 : decode cX4_value 57 = .ok (.bipush 6, 2) := by decide +kernel
theorem dX4_value_59 : decode cX4_value 59 = .ok (.if_icmp .gt 113, 3) := by decide +kernel
theorem dX4_value_62 : decode cX4_value 62 = .ok (.iconst 0, 1) := by decide +kernel
theorem dX4_value_63 : decode cX4_value 63 = .ok (.istore 8, 2) := by decide +kernel
theorem dX4_value_65 : decode cX4_value 65 = .ok (.iload 7, 2) := by decide +kernel
theorem dX4_value_67 : decode cX4_value 67 = .ok (.iload 8, 2) := by decide +kernel
theorem dX4_value_69 : decode cX4_value 69 = .ok (.iadd, 1) := by decide +kernel
theorem dX4_value_70 : decode cX4_value 70 = .ok (.bipush 6, 2) := by decide +kernel
theorem dX4_value_72 : decode cX4_value 72 = .ok (.if_icmp .gt 94, 3) := by decide +kernel
theorem dX4_value_75 : decode cX4_value 75 = .ok (.iconst 0, 1) := by decide +kernel
theorem dX4_value_76 : decode cX4_value 76 = .ok (.istore 9, 2) := by decide +kernel
theorem dX4_value_78 : decode cX4_value 78 = .ok (.iload 7, 2) := by decide +kernel
theorem dX4_value_80 : decode cX4_value 80 = .ok (.iload 8, 2) := by decide +kernel
theorem dX4_value_82 : decode cX4_value 82 = .ok (.iadd, 1) := by decide +kernel
theorem dX4_value_83 : decode cX4_value 83 = .ok (.iload 9, 2) := by decide +kernel
theorem dX4_value_85 : decode cX4_value 85 = .ok (.iadd, 1) := by decide +kernel
theorem dX4_value_86 : decode cX4_value 86 = .ok (.bipush 6, 2) := by decide +kernel
theorem dX4_value_88 : decode cX4_value 88 = .ok (.if_icmp .gt 72, 3) := by decide +kernel
theorem dX4_value_91 : decode cX4_value 91 = .ok (.aload_n 0, 1) := by decide +kernel
theorem dX4_value_92 : decode cX4_value 92 = .ok (.getfield 23, 3) := by decide +kernel
theorem dX4_value_95 : decode cX4_value 95 = .ok (.bipush 30, 2) := by decide +kernel
theorem dX4_value_97 : decode cX4_value 97 = .ok (.iload_n 1, 1) := by decide +kernel
theorem dX4_value_98 : decode cX4_value 98 = .ok (.imul, 1) := by decide +kernel
theorem dX4_value_99 : decode cX4_value 99 = .ok (.aload_n 0, 1) := by decide +kernel
theorem dX4_value_100 : decode cX4_value 100 = .ok (.getfield 16, 3) := by decide +kernel
theorem dX4_value_103 : decode cX4_value 103 = .ok (.iload 7, 2) := by decide +kernel
theorem dX4_value_105 : decode cX4_value 105 = .ok (.invokestatic 87, 3) := by decide +kernel
theorem dX4_value_108 : decode cX4_value 108 = .ok (.iload 8, 2) := by decide +kernel
theorem dX4_value_110 : decode cX4_value 110 = .ok (.invokestatic 87, 3) := by decide +kernel
theorem dX4_value_113 : decode cX4_value 113 = .ok (.iadd, 1) := by decide +kernel
theorem dX4_value_114 : decode cX4_value 114 = .ok (.iload 9, 2) := by decide +kernel
theorem dX4_value_116 : decode cX4_value 116 = .ok (.invokestatic 87, 3) := by decide +kernel
theorem dX4_value_119 : decode cX4_value 119 = .ok (.iadd, 1) := by decide +kernel
theorem dX4_value_120 : decode cX4_value 120 = .ok (.iaload, 1) := by decide +kernel
theorem dX4_value_121 : decode cX4_value 121 = .ok (.iadd, 1) := by decide +kernel
theorem dX4_value_122 : decode cX4_value 122 = .ok (.laload, 1) := by decide +kernel
theorem dX4_value_123 : decode cX4_value 123 = .ok (.lstore 10, 2) := by decide +kernel
theorem dX4_value_125 : decode cX4_value 125 = .ok (.lload 5, 2) := by decide +kernel
theorem dX4_value_127 : decode cX4_value 127 = .ok (.lload 10, 2) := by decide +kernel
theorem dX4_value_129 : decode cX4_value 129 = .ok (.iload_n 2, 1) := by decide +kernel
theorem dX4_value_130 : decode cX4_value 130 = .ok (.iload 7, 2) := by decide +kernel
theorem dX4_value_132 : decode cX4_value 132 = .ok (.invokestatic 179, 3) := by decide +kernel
theorem dX4_value_135 : decode cX4_value 135 = .ok (.lmul, 1) := by decide +kernel
theorem dX4_value_136 : decode cX4_value 136 = .ok (.iload_n 3, 1) := by decide +kernel
theorem dX4_value_137 : decode cX4_value 137 = .ok (.iload 8, 2) := by decide +kernel
theorem dX4_value_139 : decode cX4_value 139 = .ok (.invokestatic 179, 3) := by decide +kernel
theorem dX4_value_142 : decode cX4_value 142 = .ok (.lmul, 1) := by decide +kernel
theorem dX4_value_143 : decode cX4_value 143 = .ok (.iload 4, 2) := by decide +kernel
theorem dX4_value_145 : decode cX4_value 145 = .ok (.iload 9, 2) := by decide +kernel
theorem dX4_value_147 : decode cX4_value 147 = .ok (.invokestatic 179, 3) := by decide +kernel
theorem dX4_value_150 : decode cX4_value 150 = .ok (.lmul, 1) := by decide +kernel
theorem dX4_value_151 : decode cX4_value 151 = .ok (.ladd, 1) := by decide +kernel
theorem dX4_value_152 : decode cX4_value 152 = .ok (.lstore 5, 2) := by decide +kernel
theorem dX4_value_154 : decode cX4_value 154 = .ok (.iinc 9 1, 3) := by decide +kernel
theorem dX4_value_157 : decode cX4_value 157 = .ok (.goto (-79), 3) := by decide +kernel
theorem dX4_value_160 : decode cX4_value 160 = .ok (.iinc 8 1, 3) := by decide +kernel
theorem dX4_value_163 : decode cX4_value 163 = .ok (.goto (-98), 3) := by decide +kernel
theorem dX4_value_166 : decode cX4_value 166 = .ok (.iinc 7 1, 3) := by decide +kernel
theorem dX4_value_169 : decode cX4_value 169 = .ok (.goto (-114), 3) := by decide +kernel
theorem dX4_value_172 : decode cX4_value 172 = .ok (.lload 5, 2) := by decide +kernel
theorem dX4_value_174 : decode cX4_value 174 = .ok (.lreturn, 1) := by decide +kernel
theorem dX4_scalar_0 : decode cX4_scalar 0 = .ok (.iload_n 1, 1) := by decide +kernel
theorem dX4_scalar_1 : decode cX4_scalar 1 = .ok (.invokestatic 156, 3) := by decide +kernel
theorem dX4_scalar_4 : decode cX4_scalar 4 = .ok (.ifCond .eq 33, 3) := by decide +kernel
theorem dX4_scalar_7 : decode cX4_scalar 7 = .ok (.iload_n 2, 1) := by decide +kernel
theorem dX4_scalar_8 : decode cX4_scalar 8 = .ok (.invokestatic 156, 3) := by decide +kernel
theorem dX4_scalar_11 : decode cX4_scalar 11 = .ok (.ifCond .eq 26, 3) := by decide +kernel
theorem dX4_scalar_14 : decode cX4_scalar 14 = .ok (.aload_n 0, 1) := by decide +kernel
theorem dX4_scalar_15 : decode cX4_scalar 15 = .ok (.aload_n 0, 1) := by decide +kernel
theorem dX4_scalar_16 : decode cX4_scalar 16 = .ok (.getfield 23, 3) := by decide +kernel
theorem dX4_scalar_19 : decode cX4_scalar 19 = .ok (.bipush 30, 2) := by decide +kernel
theorem dX4_scalar_21 : decode cX4_scalar 21 = .ok (.iload_n 1, 1) := by decide +kernel
theorem dX4_scalar_22 : decode cX4_scalar 22 = .ok (.imul, 1) := by decide +kernel
theorem dX4_scalar_23 : decode cX4_scalar 23 = .ok (.aload_n 0, 1) := by decide +kernel
theorem dX4_scalar_24 : decode cX4_scalar 24 = .ok (.getfield 23, 3) := by decide +kernel
theorem dX4_scalar_27 : decode cX4_scalar 27 = .ok (.bipush 30, 2) := by decide +kernel
theorem dX4_scalar_29 : decode cX4_scalar 29 = .ok (.iload_n 2, 1) := by decide +kernel
theorem dX4_scalar_30 : decode cX4_scalar 30 = .ok (.imul, 1) := by decide +kernel
theorem dX4_scalar_31 : decode cX4_scalar 31 = .ok (.invokevirtual 148, 3) := by decide +kernel
theorem dX4_scalar_34 : decode cX4_scalar 34 = .ok (.goto 6, 3) := by decide +kernel
theorem dX4_scalar_37 : decode cX4_scalar 37 = .ok (.ldc2_w 171, 3) := by decide +kernel
theorem dX4_scalar_40 : decode cX4_scalar 40 = .ok (.lreturn, 1) := by decide +kernel
theorem dX4_times_0 : decode cX4_times 0 = .ok (.iload_n 1, 1) := by decide +kernel
theorem dX4_times_1 : decode cX4_times 1 = .ok (.invokestatic 156, 3) := by decide +kernel
theorem dX4_times_4 : decode cX4_times 4 = .ok (.ifCond .eq 17, 3) := by decide +kernel
theorem dX4_times_7 : decode cX4_times 7 = .ok (.iload_n 2, 1) := by decide +kernel
theorem dX4_times_8 : decode cX4_times 8 = .ok (.invokestatic 156, 3) := by decide +kernel
theorem dX4_times_11 : decode cX4_times 11 = .ok (.ifCond .eq 10, 3) := by decide +kernel
theorem dX4_times_14 : decode cX4_times 14 = .ok (.iload_n 3, 1) := by decide +kernel
theorem dX4_times_15 : decode cX4_times 15 = .ok (.invokestatic 156, 3) := by decide +kernel
theorem dX4_times_18 : decode cX4_times 18 = .ok (.ifCond .ne 5, 3) := by decide +kernel
theorem dX4_times_21 : decode cX4_times 21 = .ok (.iconst (-1), 1) := by decide +kernel
theorem dX4_times_22 : decode cX4_times 22 = .ok (.ireturn, 1) := by decide +kernel
theorem dX4_times_23 : decode cX4_times 23 = .ok (.aload_n 0, 1) := by decide +kernel
theorem dX4_times_24 : decode cX4_times 24 = .ok (.iload_n 2, 1) := by decide +kernel
theorem dX4_times_25 : decode cX4_times 25 = .ok (.invokevirtual 168, 3) := by decide +kernel
theorem dX4_times_28 : decode cX4_times 28 = .ok (.ifCond .lt 30, 3) := by decide +kernel
theorem dX4_times_31 : decode cX4_times 31 = .ok (.aload_n 0, 1) := by decide +kernel
theorem dX4_times_32 : decode cX4_times 32 = .ok (.iload_n 3, 1) := by decide +kernel
theorem dX4_times_33 : decode cX4_times 33 = .ok (.invokevirtual 168, 3) := by decide +kernel
theorem dX4_times_36 : decode cX4_times 36 = .ok (.ifCond .lt 22, 3) := by decide +kernel
theorem dX4_times_39 : decode cX4_times 39 = .ok (.aload_n 0, 1) := by decide +kernel
theorem dX4_times_40 : decode cX4_times 40 = .ok (.iload_n 2, 1) := by decide +kernel
theorem dX4_times_41 : decode cX4_times 41 = .ok (.invokevirtual 168, 3) := by decide +kernel
theorem dX4_times_44 : decode cX4_times 44 = .ok (.aload_n 0, 1) := by decide +kernel
theorem dX4_times_45 : decode cX4_times 45 = .ok (.iload_n 3, 1) := by decide +kernel
theorem dX4_times_46 : decode cX4_times 46 = .ok (.invokevirtual 168, 3) := by decide +kernel
theorem dX4_times_49 : decode cX4_times 49 = .ok (.iadd, 1) := by decide +kernel
theorem dX4_times_50 : decode cX4_times 50 = .ok (.bipush 6, 2) := by decide +kernel
theorem dX4_times_52 : decode cX4_times 52 = .ok (.if_icmp .le 6, 3) := by decide +kernel
theorem dX4_times_55 : decode cX4_times 55 = .ok (.bipush (-4), 2) := by decide +kernel
theorem dX4_times_57 : decode cX4_times 57 = .ok (.ireturn, 1) := by decide +kernel
theorem dX4_times_58 : decode cX4_times 58 = .ok (.aload_n 0, 1) := by decide +kernel
theorem dX4_times_59 : decode cX4_times 59 = .ok (.aload_n 0, 1) := by decide +kernel
theorem dX4_times_60 : decode cX4_times 60 = .ok (.getfield 23, 3) := by decide +kernel
theorem dX4_times_63 : decode cX4_times 63 = .ok (.bipush 30, 2) := by decide +kernel
theorem dX4_times_65 : decode cX4_times 65 = .ok (.iload_n 2, 1) := by decide +kernel
theorem dX4_times_66 : decode cX4_times 66 = .ok (.imul, 1) := by decide +kernel
theorem dX4_times_67 : decode cX4_times 67 = .ok (.aload_n 0, 1) := by decide +kernel
theorem dX4_times_68 : decode cX4_times 68 = .ok (.getfield 23, 3) := by decide +kernel
theorem dX4_times_71 : decode cX4_times 71 = .ok (.bipush 30, 2) := by decide +kernel
theorem dX4_times_73 : decode cX4_times 73 = .ok (.iload_n 3, 1) := by decide +kernel
theorem dX4_times_74 : decode cX4_times 74 = .ok (.imul, 1) := by decide +kernel
theorem dX4_times_75 : decode cX4_times 75 = .ok (.aload_n 0, 1) := by decide +kernel
theorem dX4_times_76 : decode cX4_times 76 = .ok (.getfield 44, 3) := by decide +kernel
theorem dX4_times_79 : decode cX4_times 79 = .ok (.iconst 0, 1) := by decide +kernel
theorem dX4_times_80 : decode cX4_times 80 = .ok (.invokevirtual 97, 3) := by decide +kernel
theorem dX4_times_83 : decode cX4_times 83 = .ok (.aload_n 0, 1) := by decide +kernel
theorem dX4_times_84 : decode cX4_times 84 = .ok (.iload_n 1, 1) := by decide +kernel
theorem dX4_times_85 : decode cX4_times 85 = .ok (.invokevirtual 165, 3) := by decide +kernel
theorem dX4_times_88 : decode cX4_times 88 = .ok (.ireturn, 1) := by decide +kernel
theorem dX4_turn_0 : decode cX4_turn 0 = .ok (.iload_n 1, 1) := by decide +kernel
theorem dX4_turn_1 : decode cX4_turn 1 = .ok (.invokestatic 156, 3) := by decide +kernel
theorem dX4_turn_4 : decode cX4_turn 4 = .ok (.ifCond .eq 10, 3) := by decide +kernel
theorem dX4_turn_7 : decode cX4_turn 7 = .ok (.iload_n 2, 1) := by decide +kernel
theorem dX4_turn_8 : decode cX4_turn 8 = .ok (.invokestatic 156, 3) := by decide +kernel
theorem dX4_turn_11 : decode cX4_turn 11 = .ok (.ifCond .ne 5, 3) := by decide +kernel
theorem dX4_turn_14 : decode cX4_turn 14 = .ok (.iconst (-1), 1) := by decide +kernel
theorem dX4_turn_15 : decode cX4_turn 15 = .ok (.ireturn, 1) := by decide +kernel
theorem dX4_turn_16 : decode cX4_turn 16 = .ok (.aload_n 0, 1) := by decide +kernel
theorem dX4_turn_17 : decode cX4_turn 17 = .ok (.aload_n 0, 1) := by decide +kernel
theorem dX4_turn_18 : decode cX4_turn 18 = .ok (.getfield 23, 3) := by decide +kernel
theorem dX4_turn_21 : decode cX4_turn 21 = .ok (.bipush 30, 2) := by decide +kernel
theorem dX4_turn_23 : decode cX4_turn 23 = .ok (.iload_n 2, 1) := by decide +kernel
theorem dX4_turn_24 : decode cX4_turn 24 = .ok (.imul, 1) := by decide +kernel
theorem dX4_turn_25 : decode cX4_turn 25 = .ok (.iconst 1, 1) := by decide +kernel
theorem dX4_turn_26 : decode cX4_turn 26 = .ok (.invokevirtual 144, 3) := by decide +kernel
theorem dX4_turn_29 : decode cX4_turn 29 = .ok (.aload_n 0, 1) := by decide +kernel
theorem dX4_turn_30 : decode cX4_turn 30 = .ok (.invokevirtual 159, 3) := by decide +kernel
theorem dX4_turn_33 : decode cX4_turn 33 = .ok (.iconst 0, 1) := by decide +kernel
theorem dX4_turn_34 : decode cX4_turn 34 = .ok (.istore_n 3, 1) := by decide +kernel
theorem dX4_turn_35 : decode cX4_turn 35 = .ok (.iload_n 3, 1) := by decide +kernel
theorem dX4_turn_36 : decode cX4_turn 36 = .ok (.bipush 30, 2) := by decide +kernel
theorem dX4_turn_38 : decode cX4_turn 38 = .ok (.if_icmp .ge 21, 3) := by decide +kernel
theorem dX4_turn_41 : decode cX4_turn 41 = .ok (.aload_n 0, 1) := by decide +kernel
theorem dX4_turn_42 : decode cX4_turn 42 = .ok (.iconst 2, 1) := by decide +kernel
theorem dX4_turn_43 : decode cX4_turn 43 = .ok (.iload_n 3, 1) := by decide +kernel
theorem dX4_turn_44 : decode cX4_turn 44 = .ok (.aload_n 0, 1) := by decide +kernel
theorem dX4_turn_45 : decode cX4_turn 45 = .ok (.getfield 38, 3) := by decide +kernel
theorem dX4_turn_48 : decode cX4_turn 48 = .ok (.iload_n 3, 1) := by decide +kernel
theorem dX4_turn_49 : decode cX4_turn 49 = .ok (.laload, 1) := by decide +kernel
theorem dX4_turn_50 : decode cX4_turn 50 = .ok (.invokevirtual 162, 3) := by decide +kernel
theorem dX4_turn_53 : decode cX4_turn 53 = .ok (.iinc 3 1, 3) := by decide +kernel
theorem dX4_turn_56 : decode cX4_turn 56 = .ok (.goto (-21), 3) := by decide +kernel
theorem dX4_turn_59 : decode cX4_turn 59 = .ok (.aload_n 0, 1) := by decide +kernel
theorem dX4_turn_60 : decode cX4_turn 60 = .ok (.iload_n 1, 1) := by decide +kernel
theorem dX4_turn_61 : decode cX4_turn 61 = .ok (.invokevirtual 165, 3) := by decide +kernel
theorem dX4_turn_64 : decode cX4_turn 64 = .ok (.ireturn, 1) := by decide +kernel
theorem dX4_strip_0 : decode cX4_strip 0 = .ok (.iload_n 1, 1) := by decide +kernel
theorem dX4_strip_1 : decode cX4_strip 1 = .ok (.invokestatic 156, 3) := by decide +kernel
theorem dX4_strip_4 : decode cX4_strip 4 = .ok (.ifCond .eq 17, 3) := by decide +kernel
theorem dX4_strip_7 : decode cX4_strip 7 = .ok (.iload_n 2, 1) := by decide +kernel
theorem dX4_strip_8 : decode cX4_strip 8 = .ok (.invokestatic 156, 3) := by decide +kernel
theorem dX4_strip_11 : decode cX4_strip 11 = .ok (.ifCond .eq 10, 3) := by decide +kernel
theorem dX4_strip_14 : decode cX4_strip 14 = .ok (.iload_n 3, 1) := by decide +kernel
theorem dX4_strip_15 : decode cX4_strip 15 = .ok (.invokestatic 156, 3) := by decide +kernel
theorem dX4_strip_18 : decode cX4_strip 18 = .ok (.ifCond .ne 5, 3) := by decide +kernel
theorem dX4_strip_21 : decode cX4_strip 21 = .ok (.iconst (-1), 1) := by decide +kernel
theorem dX4_strip_22 : decode cX4_strip 22 = .ok (.ireturn, 1) := by decide +kernel
theorem dX4_strip_23 : decode cX4_strip 23 = .ok (.aload_n 0, 1) := by decide +kernel
theorem dX4_strip_24 : decode cX4_strip 24 = .ok (.aload_n 0, 1) := by decide +kernel
theorem dX4_strip_25 : decode cX4_strip 25 = .ok (.getfield 23, 3) := by decide +kernel
theorem dX4_strip_28 : decode cX4_strip 28 = .ok (.bipush 30, 2) := by decide +kernel
theorem dX4_strip_30 : decode cX4_strip 30 = .ok (.iload_n 3, 1) := by decide +kernel
theorem dX4_strip_31 : decode cX4_strip 31 = .ok (.imul, 1) := by decide +kernel
theorem dX4_strip_32 : decode cX4_strip 32 = .ok (.iconst 2, 1) := by decide +kernel
theorem dX4_strip_33 : decode cX4_strip 33 = .ok (.invokevirtual 144, 3) := by decide +kernel
theorem dX4_strip_36 : decode cX4_strip 36 = .ok (.aload_n 0, 1) := by decide +kernel
theorem dX4_strip_37 : decode cX4_strip 37 = .ok (.invokevirtual 159, 3) := by decide +kernel
theorem dX4_strip_40 : decode cX4_strip 40 = .ok (.iconst 0, 1) := by decide +kernel
theorem dX4_strip_41 : decode cX4_strip 41 = .ok (.istore 4, 2) := by decide +kernel
theorem dX4_strip_43 : decode cX4_strip 43 = .ok (.iload 4, 2) := by decide +kernel
theorem dX4_strip_45 : decode cX4_strip 45 = .ok (.bipush 30, 2) := by decide +kernel
theorem dX4_strip_47 : decode cX4_strip 47 = .ok (.if_icmp .ge 85, 3) := by decide +kernel
theorem dX4_strip_50 : decode cX4_strip 50 = .ok (.aload_n 0, 1) := by decide +kernel
theorem dX4_strip_51 : decode cX4_strip 51 = .ok (.aload_n 0, 1) := by decide +kernel
theorem dX4_strip_52 : decode cX4_strip 52 = .ok (.getfield 23, 3) := by decide +kernel
theorem dX4_strip_55 : decode cX4_strip 55 = .ok (.bipush 30, 2) := by decide +kernel
theorem dX4_strip_57 : decode cX4_strip 57 = .ok (.iload_n 2, 1) := by decide +kernel
theorem dX4_strip_58 : decode cX4_strip 58 = .ok (.imul, 1) := by decide +kernel
theorem dX4_strip_59 : decode cX4_strip 59 = .ok (.aload_n 0, 1) := by decide +kernel
theorem dX4_strip_60 : decode cX4_strip 60 = .ok (.getfield 19, 3) := by decide +kernel
theorem dX4_strip_63 : decode cX4_strip 63 = .ok (.iconst 4, 1) := by decide +kernel
theorem dX4_strip_64 : decode cX4_strip 64 = .ok (.iload 4, 2) := by decide +kernel
theorem dX4_strip_66 : decode cX4_strip 66 = .ok (.iconst 0, 1) := by decide +kernel
theorem dX4_strip_67 : decode cX4_strip 67 = .ok (.invokestatic 75, 3) := by decide +kernel
theorem dX4_strip_70 : decode cX4_strip 70 = .ok (.aload_n 0, 1) := by decide +kernel
theorem dX4_strip_71 : decode cX4_strip 71 = .ok (.getfield 47, 3) := by decide +kernel
theorem dX4_strip_74 : decode cX4_strip 74 = .ok (.iconst 0, 1) := by decide +kernel
theorem dX4_strip_75 : decode cX4_strip 75 = .ok (.invokevirtual 97, 3) := by decide +kernel
theorem dX4_strip_78 : decode cX4_strip 78 = .ok (.lconst 0, 1) := by decide +kernel
theorem dX4_strip_79 : decode cX4_strip 79 = .ok (.lstore 5, 2) := by decide +kernel
theorem dX4_strip_81 : decode cX4_strip 81 = .ok (.iconst 0, 1) := by decide +kernel
theorem dX4_strip_82 : decode cX4_strip 82 = .ok (.istore 7, 2) := by decide +kernel
theorem dX4_strip_84 : decode cX4_strip 84 = .ok (.iload 7, 2) := by decide +kernel
theorem dX4_strip_86 : decode cX4_strip 86 = .ok (.bipush 30, 2) := by decide +kernel
theorem dX4_strip_88 : decode cX4_strip 88 = .ok (.if_icmp .ge 29, 3) := by decide +kernel
theorem dX4_strip_91 : decode cX4_strip 91 = .ok (.lload 5, 2) := by decide +kernel
theorem dX4_strip_93 : decode cX4_strip 93 = .ok (.aload_n 0, 1) := by decide +kernel
theorem dX4_strip_94 : decode cX4_strip 94 = .ok (.getfield 38, 3) := by decide +kernel
theorem dX4_strip_97 : decode cX4_strip 97 = .ok (.iload 7, 2) := by decide +kernel
theorem dX4_strip_99 : decode cX4_strip 99 = .ok (.laload, 1) := by decide +kernel
theorem dX4_strip_100 : decode cX4_strip 100 = .ok (.aload_n 0, 1) := by decide +kernel
theorem dX4_strip_101 : decode cX4_strip 101 = .ok (.getfield 47, 3) := by decide +kernel
theorem dX4_strip_104 : decode cX4_strip 104 = .ok (.iload 7, 2) := by decide +kernel
theorem dX4_strip_106 : decode cX4_strip 106 = .ok (.laload, 1) := by decide +kernel
theorem dX4_strip_107 : decode cX4_strip 107 = .ok (.lmul, 1) := by decide +kernel
theorem dX4_strip_108 : decode cX4_strip 108 = .ok (.ladd, 1) := by decide +kernel
theorem dX4_strip_109 : decode cX4_strip 109 = .ok (.lstore 5, 2) := by decide +kernel
theorem dX4_strip_111 : decode cX4_strip 111 = .ok (.iinc 7 1, 3) := by decide +kernel
theorem dX4_strip_114 : decode cX4_strip 114 = .ok (.goto (-30), 3) := by decide +kernel
theorem dX4_strip_117 : decode cX4_strip 117 = .ok (.aload_n 0, 1) := by decide +kernel
theorem dX4_strip_118 : decode cX4_strip 118 = .ok (.iconst 4, 1) := by decide +kernel
theorem dX4_strip_119 : decode cX4_strip 119 = .ok (.iload 4, 2) := by decide +kernel
theorem dX4_strip_121 : decode cX4_strip 121 = .ok (.lload 5, 2) := by decide +kernel
theorem dX4_strip_123 : decode cX4_strip 123 = .ok (.invokevirtual 162, 3) := by decide +kernel
theorem dX4_strip_126 : decode cX4_strip 126 = .ok (.iinc 4 1, 3) := by decide +kernel
theorem dX4_strip_129 : decode cX4_strip 129 = .ok (.goto (-86), 3) := by decide +kernel
theorem dX4_strip_132 : decode cX4_strip 132 = .ok (.aload_n 0, 1) := by decide +kernel
theorem dX4_strip_133 : decode cX4_strip 133 = .ok (.iload_n 1, 1) := by decide +kernel
theorem dX4_strip_134 : decode cX4_strip 134 = .ok (.invokevirtual 165, 3) := by decide +kernel
theorem dX4_strip_137 : decode cX4_strip 137 = .ok (.ireturn, 1) := by decide +kernel
theorem dX4_layMet_0 : decode cX4_layMet 0 = .ok (.aload_n 0, 1) := by decide +kernel
theorem dX4_layMet_1 : decode cX4_layMet 1 = .ok (.aload_n 0, 1) := by decide +kernel
theorem dX4_layMet_2 : decode cX4_layMet 2 = .ok (.getfield 23, 3) := by decide +kernel
theorem dX4_layMet_5 : decode cX4_layMet 5 = .ok (.bipush 30, 2) := by decide +kernel
theorem dX4_layMet_7 : decode cX4_layMet 7 = .ok (.iload_n 1, 1) := by decide +kernel
theorem dX4_layMet_8 : decode cX4_layMet 8 = .ok (.imul, 1) := by decide +kernel
theorem dX4_layMet_9 : decode cX4_layMet 9 = .ok (.iconst 3, 1) := by decide +kernel
theorem dX4_layMet_10 : decode cX4_layMet 10 = .ok (.invokevirtual 144, 3) := by decide +kernel
theorem dX4_layMet_13 : decode cX4_layMet 13 = .ok (.iconst 0, 1) := by decide +kernel
theorem dX4_layMet_14 : decode cX4_layMet 14 = .ok (.istore_n 2, 1) := by decide +kernel
theorem dX4_layMet_15 : decode cX4_layMet 15 = .ok (.iload_n 2, 1) := by decide +kernel
theorem dX4_layMet_16 : decode cX4_layMet 16 = .ok (.bipush 30, 2) := by decide +kernel
theorem dX4_layMet_18 : decode cX4_layMet 18 = .ok (.if_icmp .ge 32, 3) := by decide +kernel
theorem dX4_layMet_21 : decode cX4_layMet 21 = .ok (.aload_n 0, 1) := by decide +kernel
theorem dX4_layMet_22 : decode cX4_layMet 22 = .ok (.getfield 50, 3) := by decide +kernel
theorem dX4_layMet_25 : decode cX4_layMet 25 = .ok (.iload_n 2, 1) := by decide +kernel
theorem dX4_layMet_26 : decode cX4_layMet 26 = .ok (.aload_n 0, 1) := by decide +kernel
theorem dX4_layMet_27 : decode cX4_layMet 27 = .ok (.getfield 38, 3) := by decide +kernel
theorem dX4_layMet_30 : decode cX4_layMet 30 = .ok (.iload_n 2, 1) := by decide +kernel
theorem dX4_layMet_31 : decode cX4_layMet 31 = .ok (.laload, 1) := by decide +kernel
theorem dX4_layMet_32 : decode cX4_layMet 32 = .ok (.aload_n 0, 1) := by decide +kernel
theorem dX4_layMet_33 : decode cX4_layMet 33 = .ok (.iload_n 2, 1) := by decide +kernel
theorem dX4_layMet_34 : decode cX4_layMet 34 = .ok (.invokevirtual 129, 3) := by decide +kernel
theorem dX4_layMet_37 : decode cX4_layMet 37 = .ok (.i2l, 1) := by decide +kernel
theorem dX4_layMet_38 : decode cX4_layMet 38 = .ok (.lmul, 1) := by decide +kernel
theorem dX4_layMet_39 : decode cX4_layMet 39 = .ok (.ldc2_w 132, 3) := by decide +kernel
theorem dX4_layMet_42 : decode cX4_layMet 42 = .ok (.ldiv, 1) := by decide +kernel
theorem dX4_layMet_43 : decode cX4_layMet 43 = .ok (.lastore, 1) := by decide +kernel
theorem dX4_layMet_44 : decode cX4_layMet 44 = .ok (.iinc 2 1, 3) := by decide +kernel
theorem dX4_layMet_47 : decode cX4_layMet 47 = .ok (.goto (-32), 3) := by decide +kernel
theorem dX4_layMet_50 : decode cX4_layMet 50 = .ok (.return_, 1) := by decide +kernel
theorem dX4_meet_0 : decode cX4_meet 0 = .ok (.iload_n 1, 1) := by decide +kernel
theorem dX4_meet_1 : decode cX4_meet 1 = .ok (.invokestatic 156, 3) := by decide +kernel
theorem dX4_meet_4 : decode cX4_meet 4 = .ok (.ifCond .eq 17, 3) := by decide +kernel
theorem dX4_meet_7 : decode cX4_meet 7 = .ok (.iload_n 2, 1) := by decide +kernel
theorem dX4_meet_8 : decode cX4_meet 8 = .ok (.invokestatic 156, 3) := by decide +kernel
theorem dX4_meet_11 : decode cX4_meet 11 = .ok (.ifCond .eq 10, 3) := by decide +kernel
theorem dX4_meet_14 : decode cX4_meet 14 = .ok (.iload_n 3, 1) := by decide +kernel
theorem dX4_meet_15 : decode cX4_meet 15 = .ok (.invokestatic 156, 3) := by decide +kernel
theorem dX4_meet_18 : decode cX4_meet 18 = .ok (.ifCond .ne 5, 3) := by decide +kernel
theorem dX4_meet_21 : decode cX4_meet 21 = .ok (.iconst (-1), 1) := by decide +kernel
theorem dX4_meet_22 : decode cX4_meet 22 = .ok (.ireturn, 1) := by decide +kernel
theorem dX4_meet_23 : decode cX4_meet 23 = .ok (.aload_n 0, 1) := by decide +kernel
theorem dX4_meet_24 : decode cX4_meet 24 = .ok (.iload_n 2, 1) := by decide +kernel
theorem dX4_meet_25 : decode cX4_meet 25 = .ok (.invokevirtual 183, 3) := by decide +kernel
theorem dX4_meet_28 : decode cX4_meet 28 = .ok (.iconst 0, 1) := by decide +kernel
theorem dX4_meet_29 : decode cX4_meet 29 = .ok (.istore 4, 2) := by decide +kernel
theorem dX4_meet_31 : decode cX4_meet 31 = .ok (.iload 4, 2) := by decide +kernel
theorem dX4_meet_33 : decode cX4_meet 33 = .ok (.bipush 30, 2) := by decide +kernel
theorem dX4_meet_35 : decode cX4_meet 35 = .ok (.if_icmp .ge 23, 3) := by decide +kernel
theorem dX4_meet_38 : decode cX4_meet 38 = .ok (.aload_n 0, 1) := by decide +kernel
theorem dX4_meet_39 : decode cX4_meet 39 = .ok (.getfield 47, 3) := by decide +kernel
theorem dX4_meet_42 : decode cX4_meet 42 = .ok (.iload 4, 2) := by decide +kernel
theorem dX4_meet_44 : decode cX4_meet 44 = .ok (.aload_n 0, 1) := by decide +kernel
theorem dX4_meet_45 : decode cX4_meet 45 = .ok (.getfield 50, 3) := by decide +kernel
theorem dX4_meet_48 : decode cX4_meet 48 = .ok (.iload 4, 2) := by decide +kernel
theorem dX4_meet_50 : decode cX4_meet 50 = .ok (.laload, 1) := by decide +kernel
theorem dX4_meet_51 : decode cX4_meet 51 = .ok (.lastore, 1) := by decide +kernel
theorem dX4_meet_52 : decode cX4_meet 52 = .ok (.iinc 4 1, 3) := by decide +kernel
theorem dX4_meet_55 : decode cX4_meet 55 = .ok (.goto (-24), 3) := by decide +kernel
theorem dX4_meet_58 : decode cX4_meet 58 = .ok (.aload_n 0, 1) := by decide +kernel
theorem dX4_meet_59 : decode cX4_meet 59 = .ok (.iload_n 3, 1) := by decide +kernel
theorem dX4_meet_60 : decode cX4_meet 60 = .ok (.invokevirtual 183, 3) := by decide +kernel
theorem dX4_meet_63 : decode cX4_meet 63 = .ok (.aload_n 0, 1) := by decide +kernel
theorem dX4_meet_64 : decode cX4_meet 64 = .ok (.invokevirtual 159, 3) := by decide +kernel
theorem dX4_meet_67 : decode cX4_meet 67 = .ok (.iconst 0, 1) := by decide +kernel
theorem dX4_meet_68 : decode cX4_meet 68 = .ok (.istore 4, 2) := by decide +kernel
theorem dX4_meet_70 : decode cX4_meet 70 = .ok (.iload 4, 2) := by decide +kernel
theorem dX4_meet_72 : decode cX4_meet 72 = .ok (.bipush 30, 2) := by decide +kernel
theorem dX4_meet_74 : decode cX4_meet 74 = .ok (.if_icmp .ge 43, 3) := by decide +kernel
theorem dX4_meet_77 : decode cX4_meet 77 = .ok (.aload_n 0, 1) := by decide +kernel
theorem dX4_meet_78 : decode cX4_meet 78 = .ok (.iconst 3, 1) := by decide +kernel
theorem dX4_meet_79 : decode cX4_meet 79 = .ok (.iload 4, 2) := by decide +kernel
theorem dX4_meet_81 : decode cX4_meet 81 = .ok (.aload_n 0, 1) := by decide +kernel
theorem dX4_meet_82 : decode cX4_meet 82 = .ok (.getfield 47, 3) := by decide +kernel
theorem dX4_meet_85 : decode cX4_meet 85 = .ok (.iload 4, 2) := by decide +kernel
theorem dX4_meet_87 : decode cX4_meet 87 = .ok (.laload, 1) := by decide +kernel
theorem dX4_meet_88 : decode cX4_meet 88 = .ok (.aload_n 0, 1) := by decide +kernel
theorem dX4_meet_89 : decode cX4_meet 89 = .ok (.getfield 50, 3) := by decide +kernel
theorem dX4_meet_92 : decode cX4_meet 92 = .ok (.iload 4, 2) := by decide +kernel
theorem dX4_meet_94 : decode cX4_meet 94 = .ok (.laload, 1) := by decide +kernel
theorem dX4_meet_95 : decode cX4_meet 95 = .ok (.lmul, 1) := by decide +kernel
theorem dX4_meet_96 : decode cX4_meet 96 = .ok (.sipush 720, 3) := by decide +kernel
theorem dX4_meet_99 : decode cX4_meet 99 = .ok (.aload_n 0, 1) := by decide +kernel
theorem dX4_meet_100 : decode cX4_meet 100 = .ok (.iload 4, 2) := by decide +kernel
theorem dX4_meet_102 : decode cX4_meet 102 = .ok (.invokevirtual 129, 3) := by decide +kernel
theorem dX4_meet_105 : decode cX4_meet 105 = .ok (.idiv, 1) := by decide +kernel
theorem dX4_meet_106 : decode cX4_meet 106 = .ok (.i2l, 1) := by decide +kernel
theorem dX4_meet_107 : decode cX4_meet 107 = .ok (.lmul, 1) := by decide +kernel
theorem dX4_meet_108 : decode cX4_meet 108 = .ok (.invokevirtual 162, 3) := by decide +kernel
theorem dX4_meet_111 : decode cX4_meet 111 = .ok (.iinc 4 1, 3) := by decide +kernel
theorem dX4_meet_114 : decode cX4_meet 114 = .ok (.goto (-44), 3) := by decide +kernel
theorem dX4_meet_117 : decode cX4_meet 117 = .ok (.iconst 0, 1) := by decide +kernel
theorem dX4_meet_118 : decode cX4_meet 118 = .ok (.istore 4, 2) := by decide +kernel
theorem dX4_meet_120 : decode cX4_meet 120 = .ok (.iload 4, 2) := by decide +kernel
theorem dX4_meet_122 : decode cX4_meet 122 = .ok (.bipush 30, 2) := by decide +kernel
theorem dX4_meet_124 : decode cX4_meet 124 = .ok (.if_icmp .ge 22, 3) := by decide +kernel
theorem dX4_meet_127 : decode cX4_meet 127 = .ok (.aload_n 0, 1) := by decide +kernel
theorem dX4_meet_128 : decode cX4_meet 128 = .ok (.getfield 44, 3) := by decide +kernel
theorem dX4_meet_131 : decode cX4_meet 131 = .ok (.iload 4, 2) := by decide +kernel
theorem dX4_meet_133 : decode cX4_meet 133 = .ok (.dup2, 1) := by decide +kernel
theorem dX4_meet_134 : decode cX4_meet 134 = .ok (.laload, 1) := by decide +kernel
theorem dX4_meet_135 : decode cX4_meet 135 = .ok (.ldc2_w 132, 3) := by decide +kernel
theorem dX4_meet_138 : decode cX4_meet 138 = .ok (.ldiv, 1) := by decide +kernel
theorem dX4_meet_139 : decode cX4_meet 139 = .ok (.lastore, 1) := by decide +kernel
theorem dX4_meet_140 : decode cX4_meet 140 = .ok (.iinc 4 1, 3) := by decide +kernel
theorem dX4_meet_143 : decode cX4_meet 143 = .ok (.goto (-23), 3) := by decide +kernel
theorem dX4_meet_146 : decode cX4_meet 146 = .ok (.aload_n 0, 1) := by decide +kernel
theorem dX4_meet_147 : decode cX4_meet 147 = .ok (.iload_n 1, 1) := by decide +kernel
theorem dX4_meet_148 : decode cX4_meet 148 = .ok (.invokevirtual 165, 3) := by decide +kernel
theorem dX4_meet_151 : decode cX4_meet 151 = .ok (.ireturn, 1) := by decide +kernel
theorem dX4_layPower_0 : decode cX4_layPower 0 = .ok (.iconst 0, 1) := by decide +kernel
theorem dX4_layPower_1 : decode cX4_layPower 1 = .ok (.istore_n 3, 1) := by decide +kernel
theorem dX4_layPower_2 : decode cX4_layPower 2 = .ok (.iload_n 3, 1) := by decide +kernel
theorem dX4_layPower_3 : decode cX4_layPower 3 = .ok (.bipush 30, 2) := by decide +kernel
theorem dX4_layPower_5 : decode cX4_layPower 5 = .ok (.if_icmp .ge 16, 3) := by decide +kernel
theorem dX4_layPower_8 : decode cX4_layPower 8 = .ok (.aload_n 0, 1) := by decide +kernel
theorem dX4_layPower_9 : decode cX4_layPower 9 = .ok (.getfield 53, 3) := by decide +kernel
theorem dX4_layPower_12 : decode cX4_layPower 12 = .ok (.iload_n 3, 1) := by decide +kernel
theorem dX4_layPower_13 : decode cX4_layPower 13 = .ok (.lconst 0, 1) := by decide +kernel
theorem dX4_layPower_14 : decode cX4_layPower 14 = .ok (.lastore, 1) := by decide +kernel
theorem dX4_layPower_15 : decode cX4_layPower 15 = .ok (.iinc 3 1, 3) := by decide +kernel
theorem dX4_layPower_18 : decode cX4_layPower 18 = .ok (.goto (-16), 3) := by decide +kernel
theorem dX4_layPower_21 : decode cX4_layPower 21 = .ok (.iconst 0, 1) := by decide +kernel
theorem dX4_layPower_22 : decode cX4_layPower 22 = .ok (.istore_n 3, 1) := by decide +kernel
theorem dX4_layPower_23 : decode cX4_layPower 23 = .ok (.iload_n 3, 1) := by decide +kernel
theorem dX4_layPower_24 : decode cX4_layPower 24 = .ok (.bipush 30, 2) := by decide +kernel
theorem dX4_layPower_26 : decode cX4_layPower 26 = .ok (.if_icmp .ge 81, 3) := by decide +kernel
theorem dX4_layPower_29 : decode cX4_layPower 29 = .ok (.aload_n 0, 1) := by decide +kernel
theorem dX4_layPower_30 : decode cX4_layPower 30 = .ok (.getfield 13, 3) := by decide +kernel
theorem dX4_layPower_33 : decode cX4_layPower 33 = .ok (.iload_n 3, 1) := by decide +kernel
theorem dX4_layPower_34 : decode cX4_layPower 34 = .ok (.iaload, 1) := by decide +kernel
theorem dX4_layPower_35 : decode cX4_layPower 35 = .ok (.iload_n 2, 1) := by decide +kernel
theorem dX4_layPower_36 : decode cX4_layPower 36 = .ok (.imul, 1) := by decide +kernel
theorem dX4_layPower_37 : decode cX4_layPower 37 = .ok (.bipush 6, 2) := by decide +kernel
theorem dX4_layPower_39 : decode cX4_layPower 39 = .ok (.if_icmp .gt 62, 3) := by decide +kernel
theorem dX4_layPower_42 : decode cX4_layPower 42 = .ok (.iconst 0, 1) := by decide +kernel
theorem dX4_layPower_43 : decode cX4_layPower 43 = .ok (.istore 4, 2) := by decide +kernel
theorem dX4_layPower_45 : decode cX4_layPower 45 = .ok (.iconst 0, 1) := by decide +kernel
theorem dX4_layPower_46 : decode cX4_layPower 46 = .ok (.istore 5, 2) := by decide +kernel
theorem dX4_layPower_48 : decode cX4_layPower 48 = .ok (.iload 5, 2) := by decide +kernel
theorem dX4_layPower_50 : decode cX4_layPower 50 = .ok (.bipush 6, 2) := by decide +kernel
theorem dX4_layPower_52 : decode cX4_layPower 52 = .ok (.if_icmp .ge 26, 3) := by decide +kernel
theorem dX4_layPower_55 : decode cX4_layPower 55 = .ok (.iload 4, 2) := by decide +kernel
theorem dX4_layPower_57 : decode cX4_layPower 57 = .ok (.iload_n 2, 1) := by decide +kernel
theorem dX4_layPower_58 : decode cX4_layPower 58 = .ok (.aload_n 0, 1) := by decide +kernel
theorem dX4_layPower_59 : decode cX4_layPower 59 = .ok (.iload_n 3, 1) := by decide +kernel
theorem dX4_layPower_60 : decode cX4_layPower 60 = .ok (.iload 5, 2) := by decide +kernel
theorem dX4_layPower_62 : decode cX4_layPower 62 = .ok (.invokevirtual 91, 3) := by decide +kernel
theorem dX4_layPower_65 : decode cX4_layPower 65 = .ok (.imul, 1) := by decide +kernel
theorem dX4_layPower_66 : decode cX4_layPower 66 = .ok (.invokestatic 87, 3) := by decide +kernel
theorem dX4_layPower_69 : decode cX4_layPower 69 = .ok (.iadd, 1) := by decide +kernel
theorem dX4_layPower_70 : decode cX4_layPower 70 = .ok (.istore 4, 2) := by decide +kernel
theorem dX4_layPower_72 : decode cX4_layPower 72 = .ok (.iinc 5 1, 3) := by decide +kernel
theorem dX4_layPower_75 : decode cX4_layPower 75 = .ok (.goto (-27), 3) := by decide +kernel
theorem dX4_layPower_78 : decode cX4_layPower 78 = .ok (.aload_n 0, 1) := by decide +kernel
theorem dX4_layPower_79 : decode cX4_layPower 79 = .ok (.getfield 53, 3) := by decide +kernel
theorem dX4_layPower_82 : decode cX4_layPower 82 = .ok (.aload_n 0, 1) := by decide +kernel
theorem dX4_layPower_83 : decode cX4_layPower 83 = .ok (.getfield 16, 3) := by decide +kernel
theorem dX4_layPower_86 : decode cX4_layPower 86 = .ok (.iload 4, 2) := by decide +kernel
theorem dX4_layPower_88 : decode cX4_layPower 88 = .ok (.iaload, 1) := by decide +kernel
theorem dX4_layPower_89 : decode cX4_layPower 89 = .ok (.aload_n 0, 1) := by decide +kernel
theorem dX4_layPower_90 : decode cX4_layPower 90 = .ok (.getfield 23, 3) := by decide +kernel
theorem dX4_layPower_93 : decode cX4_layPower 93 = .ok (.bipush 30, 2) := by decide +kernel
theorem dX4_layPower_95 : decode cX4_layPower 95 = .ok (.iload_n 1, 1) := by decide +kernel
theorem dX4_layPower_96 : decode cX4_layPower 96 = .ok (.imul, 1) := by decide +kernel
theorem dX4_layPower_97 : decode cX4_layPower 97 = .ok (.iload_n 3, 1) := by decide +kernel
theorem dX4_layPower_98 : decode cX4_layPower 98 = .ok (.iadd, 1) := by decide +kernel
theorem dX4_layPower_99 : decode cX4_layPower 99 = .ok (.laload, 1) := by decide +kernel
theorem dX4_layPower_100 : decode cX4_layPower 100 = .ok (.lastore, 1) := by decide +kernel
theorem dX4_layPower_101 : decode cX4_layPower 101 = .ok (.iinc 3 1, 3) := by decide +kernel
theorem dX4_layPower_104 : decode cX4_layPower 104 = .ok (.goto (-81), 3) := by decide +kernel
theorem dX4_layPower_107 : decode cX4_layPower 107 = .ok (.return_, 1) := by decide +kernel
theorem dX4_layPlugged_0 : decode cX4_layPlugged 0 = .ok (.iconst 0, 1) := by decide +kernel
theorem dX4_layPlugged_1 : decode cX4_layPlugged 1 = .ok (.istore_n 3, 1) := by decide +kernel
theorem dX4_layPlugged_2 : decode cX4_layPlugged 2 = .ok (.iload_n 3, 1) := by decide +kernel
theorem dX4_layPlugged_3 : decode cX4_layPlugged 3 = .ok (.bipush 30, 2) := by decide +kernel
theorem dX4_layPlugged_5 : decode cX4_layPlugged 5 = .ok (.if_icmp .ge 24, 3) := by decide +kernel
theorem dX4_layPlugged_8 : decode cX4_layPlugged 8 = .ok (.aload_n 0, 1) := by decide +kernel
theorem dX4_layPlugged_9 : decode cX4_layPlugged 9 = .ok (.getfield 56, 3) := by decide +kernel
theorem dX4_layPlugged_12 : decode cX4_layPlugged 12 = .ok (.iload_n 3, 1) := by decide +kernel
theorem dX4_layPlugged_13 : decode cX4_layPlugged 13 = .ok (.iload_n 3, 1) := by decide +kernel
theorem dX4_layPlugged_14 : decode cX4_layPlugged 14 = .ok (.ifCond .ne 7, 3) := by decide +kernel
theorem dX4_layPlugged_17 : decode cX4_layPlugged 17 = .ok (.lconst 1, 1) := by decide +kernel
theorem dX4_layPlugged_18 : decode cX4_layPlugged 18 = .ok (.goto 4, 3) := by decide +kernel
theorem dX4_layPlugged_21 : decode cX4_layPlugged 21 = .ok (.lconst 0, 1) := by decide +kernel
theorem dX4_layPlugged_22 : decode cX4_layPlugged 22 = .ok (.lastore, 1) := by decide +kernel
theorem dX4_layPlugged_23 : decode cX4_layPlugged 23 = .ok (.iinc 3 1, 3) := by decide +kernel
theorem dX4_layPlugged_26 : decode cX4_layPlugged 26 = .ok (.goto (-24), 3) := by decide +kernel
theorem dX4_layPlugged_29 : decode cX4_layPlugged 29 = .ok (.iconst 0, 1) := by decide +kernel
theorem dX4_layPlugged_30 : decode cX4_layPlugged 30 = .ok (.istore_n 3, 1) := by decide +kernel
theorem dX4_layPlugged_31 : decode cX4_layPlugged 31 = .ok (.iload_n 3, 1) := by decide +kernel
theorem dX4_layPlugged_32 : decode cX4_layPlugged 32 = .ok (.aload_n 0, 1) := by decide +kernel
theorem dX4_layPlugged_33 : decode cX4_layPlugged 33 = .ok (.iload_n 1, 1) := by decide +kernel
theorem dX4_layPlugged_34 : decode cX4_layPlugged 34 = .ok (.invokevirtual 94, 3) := by decide +kernel
theorem dX4_layPlugged_37 : decode cX4_layPlugged 37 = .ok (.if_icmp .ge 69, 3) := by decide +kernel
theorem dX4_layPlugged_40 : decode cX4_layPlugged 40 = .ok (.aload_n 0, 1) := by decide +kernel
theorem dX4_layPlugged_41 : decode cX4_layPlugged 41 = .ok (.iload_n 2, 1) := by decide +kernel
theorem dX4_layPlugged_42 : decode cX4_layPlugged 42 = .ok (.aload_n 0, 1) := by decide +kernel
theorem dX4_layPlugged_43 : decode cX4_layPlugged 43 = .ok (.iload_n 1, 1) := by decide +kernel
theorem dX4_layPlugged_44 : decode cX4_layPlugged 44 = .ok (.iload_n 3, 1) := by decide +kernel
theorem dX4_layPlugged_45 : decode cX4_layPlugged 45 = .ok (.invokevirtual 91, 3) := by decide +kernel
theorem dX4_layPlugged_48 : decode cX4_layPlugged 48 = .ok (.invokevirtual 187, 3) := by decide +kernel
theorem dX4_layPlugged_51 : decode cX4_layPlugged 51 = .ok (.aload_n 0, 1) := by decide +kernel
theorem dX4_layPlugged_52 : decode cX4_layPlugged 52 = .ok (.aload_n 0, 1) := by decide +kernel
theorem dX4_layPlugged_53 : decode cX4_layPlugged 53 = .ok (.getfield 56, 3) := by decide +kernel
theorem dX4_layPlugged_56 : decode cX4_layPlugged 56 = .ok (.iconst 0, 1) := by decide +kernel
theorem dX4_layPlugged_57 : decode cX4_layPlugged 57 = .ok (.aload_n 0, 1) := by decide +kernel
theorem dX4_layPlugged_58 : decode cX4_layPlugged 58 = .ok (.getfield 53, 3) := by decide +kernel
theorem dX4_layPlugged_61 : decode cX4_layPlugged 61 = .ok (.iconst 0, 1) := by decide +kernel
theorem dX4_layPlugged_62 : decode cX4_layPlugged 62 = .ok (.aload_n 0, 1) := by decide +kernel
theorem dX4_layPlugged_63 : decode cX4_layPlugged 63 = .ok (.getfield 47, 3) := by decide +kernel
theorem dX4_layPlugged_66 : decode cX4_layPlugged 66 = .ok (.iconst 0, 1) := by decide +kernel
theorem dX4_layPlugged_67 : decode cX4_layPlugged 67 = .ok (.invokevirtual 97, 3) := by decide +kernel
theorem dX4_layPlugged_70 : decode cX4_layPlugged 70 = .ok (.iconst 0, 1) := by decide +kernel
theorem dX4_layPlugged_71 : decode cX4_layPlugged 71 = .ok (.istore 4, 2) := by decide +kernel
theorem dX4_layPlugged_73 : decode cX4_layPlugged 73 = .ok (.iload 4, 2) := by decide +kernel
theorem dX4_layPlugged_75 : decode cX4_layPlugged 75 = .ok (.bipush 30, 2) := by decide +kernel
theorem dX4_layPlugged_77 : decode cX4_layPlugged 77 = .ok (.if_icmp .ge 23, 3) := by decide +kernel
theorem dX4_layPlugged_80 : decode cX4_layPlugged 80 = .ok (.aload_n 0, 1) := by decide +kernel
theorem dX4_layPlugged_81 : decode cX4_layPlugged 81 = .ok (.getfield 56, 3) := by decide +kernel
theorem dX4_layPlugged_84 : decode cX4_layPlugged 84 = .ok (.iload 4, 2) := by decide +kernel
theorem dX4_layPlugged_86 : decode cX4_layPlugged 86 = .ok (.aload_n 0, 1) := by decide +kernel
theorem dX4_layPlugged_87 : decode cX4_layPlugged 87 = .ok (.getfield 47, 3) := by decide +kernel
theorem dX4_layPlugged_90 : decode cX4_layPlugged 90 = .ok (.iload 4, 2) := by decide +kernel
theorem dX4_layPlugged_92 : decode cX4_layPlugged 92 = .ok (.laload, 1) := by decide +kernel
theorem dX4_layPlugged_93 : decode cX4_layPlugged 93 = .ok (.lastore, 1) := by decide +kernel
theorem dX4_layPlugged_94 : decode cX4_layPlugged 94 = .ok (.iinc 4 1, 3) := by decide +kernel
theorem dX4_layPlugged_97 : decode cX4_layPlugged 97 = .ok (.goto (-24), 3) := by decide +kernel
theorem dX4_layPlugged_100 : decode cX4_layPlugged 100 = .ok (.iinc 3 1, 3) := by decide +kernel
theorem dX4_layPlugged_103 : decode cX4_layPlugged 103 = .ok (.goto (-72), 3) := by decide +kernel
theorem dX4_layPlugged_106 : decode cX4_layPlugged 106 = .ok (.return_, 1) := by decide +kernel
theorem dX4_isWithin_0 : decode cX4_isWithin 0 = .ok (.iconst 1, 1) := by decide +kernel
theorem dX4_isWithin_1 : decode cX4_isWithin 1 = .ok (.istore_n 3, 1) := by decide +kernel
theorem dX4_isWithin_2 : decode cX4_isWithin 2 = .ok (.iconst 0, 1) := by decide +kernel
theorem dX4_isWithin_3 : decode cX4_isWithin 3 = .ok (.istore 4, 2) := by decide +kernel
theorem dX4_isWithin_5 : decode cX4_isWithin 5 = .ok (.iload 4, 2) := by decide +kernel
theorem dX4_isWithin_7 : decode cX4_isWithin 7 = .ok (.bipush 30, 2) := by decide +kernel
theorem dX4_isWithin_9 : decode cX4_isWithin 9 = .ok (.if_icmp .ge 50, 3) := by decide +kernel
theorem dX4_isWithin_12 : decode cX4_isWithin 12 = .ok (.aload_n 0, 1) := by decide +kernel
theorem dX4_isWithin_13 : decode cX4_isWithin 13 = .ok (.getfield 23, 3) := by decide +kernel
theorem dX4_isWithin_16 : decode cX4_isWithin 16 = .ok (.bipush 30, 2) := by decide +kernel
theorem dX4_isWithin_18 : decode cX4_isWithin 18 = .ok (.iload_n 1, 1) := by decide +kernel
theorem dX4_isWithin_19 : decode cX4_isWithin 19 = .ok (.imul, 1) := by decide +kernel
theorem dX4_isWithin_20 : decode cX4_isWithin 20 = .ok (.iload 4, 2) := by decide +kernel
theorem dX4_isWithin_22 : decode cX4_isWithin 22 = .ok (.iadd, 1) := by decide +kernel
theorem dX4_isWithin_23 : decode cX4_isWithin 23 = .ok (.laload, 1) := by decide +kernel
theorem dX4_isWithin_24 : decode cX4_isWithin 24 = .ok (.lstore 5, 2) := by decide +kernel
theorem dX4_isWithin_26 : decode cX4_isWithin 26 = .ok (.iload_n 3, 1) := by decide +kernel
theorem dX4_isWithin_27 : decode cX4_isWithin 27 = .ok (.ifCond .eq 24, 3) := by decide +kernel
theorem dX4_isWithin_30 : decode cX4_isWithin 30 = .ok (.lload 5, 2) := by decide +kernel
theorem dX4_isWithin_32 : decode cX4_isWithin 32 = .ok (.iload_n 2, 1) := by decide +kernel
theorem dX4_isWithin_33 : decode cX4_isWithin 33 = .ok (.i2l, 1) := by decide +kernel
theorem dX4_isWithin_34 : decode cX4_isWithin 34 = .ok (.lcmp, 1) := by decide +kernel
theorem dX4_isWithin_35 : decode cX4_isWithin 35 = .ok (.ifCond .gt 16, 3) := by decide +kernel
theorem dX4_isWithin_38 : decode cX4_isWithin 38 = .ok (.lload 5, 2) := by decide +kernel
theorem dX4_isWithin_40 : decode cX4_isWithin 40 = .ok (.iload_n 2, 1) := by decide +kernel
theorem dX4_isWithin_41 : decode cX4_isWithin 41 = .ok (.ineg, 1) := by decide +kernel
theorem dX4_isWithin_42 : decode cX4_isWithin 42 = .ok (.i2l, 1) := by decide +kernel
theorem dX4_isWithin_43 : decode cX4_isWithin 43 = .ok (.lcmp, 1) := by decide +kernel
theorem dX4_isWithin_44 : decode cX4_isWithin 44 = .ok (.ifCond .lt 7, 3) := by decide +kernel
theorem dX4_isWithin_47 : decode cX4_isWithin 47 = .ok (.iconst 1, 1) := by decide +kernel
theorem dX4_isWithin_48 : decode cX4_isWithin 48 = .ok (.goto 4, 3) := by decide +kernel
theorem dX4_isWithin_51 : decode cX4_isWithin 51 = .ok (.iconst 0, 1) := by decide +kernel
theorem dX4_isWithin_52 : decode cX4_isWithin 52 = .ok (.istore_n 3, 1) := by decide +kernel
theorem dX4_isWithin_53 : decode cX4_isWithin 53 = .ok (.iinc 4 1, 3) := by decide +kernel
theorem dX4_isWithin_56 : decode cX4_isWithin 56 = .ok (.goto (-51), 3) := by decide +kernel
theorem dX4_isWithin_59 : decode cX4_isWithin 59 = .ok (.iload_n 3, 1) := by decide +kernel
theorem dX4_isWithin_60 : decode cX4_isWithin 60 = .ok (.ireturn, 1) := by decide +kernel
theorem dX4_plug_0 : decode cX4_plug 0 = .ok (.iload_n 1, 1) := by decide +kernel
theorem dX4_plug_1 : decode cX4_plug 1 = .ok (.invokestatic 156, 3) := by decide +kernel
theorem dX4_plug_4 : decode cX4_plug 4 = .ok (.ifCond .eq 17, 3) := by decide +kernel
theorem dX4_plug_7 : decode cX4_plug 7 = .ok (.iload_n 2, 1) := by decide +kernel
theorem dX4_plug_8 : decode cX4_plug 8 = .ok (.invokestatic 156, 3) := by decide +kernel
theorem dX4_plug_11 : decode cX4_plug 11 = .ok (.ifCond .eq 10, 3) := by decide +kernel
theorem dX4_plug_14 : decode cX4_plug 14 = .ok (.iload_n 3, 1) := by decide +kernel
theorem dX4_plug_15 : decode cX4_plug 15 = .ok (.invokestatic 156, 3) := by decide +kernel
theorem dX4_plug_18 : decode cX4_plug 18 = .ok (.ifCond .ne 5, 3) := by decide +kernel
theorem dX4_plug_21 : decode cX4_plug 21 = .ok (.iconst (-1), 1) := by decide +kernel
theorem dX4_plug_22 : decode cX4_plug 22 = .ok (.ireturn, 1) := by decide +kernel
theorem dX4_plug_23 : decode cX4_plug 23 = .ok (.aload_n 0, 1) := by decide +kernel
theorem dX4_plug_24 : decode cX4_plug 24 = .ok (.iload_n 2, 1) := by decide +kernel
theorem dX4_plug_25 : decode cX4_plug 25 = .ok (.sipush 1000, 3) := by decide +kernel
theorem dX4_plug_28 : decode cX4_plug 28 = .ok (.invokevirtual 190, 3) := by decide +kernel
theorem dX4_plug_31 : decode cX4_plug 31 = .ok (.ifCond .eq 13, 3) := by decide +kernel
theorem dX4_plug_34 : decode cX4_plug 34 = .ok (.aload_n 0, 1) := by decide +kernel
theorem dX4_plug_35 : decode cX4_plug 35 = .ok (.iload_n 3, 1) := by decide +kernel
theorem dX4_plug_36 : decode cX4_plug 36 = .ok (.bipush 9, 2) := by decide +kernel
theorem dX4_plug_38 : decode cX4_plug 38 = .ok (.invokevirtual 190, 3) := by decide +kernel
theorem dX4_plug_41 : decode cX4_plug 41 = .ok (.ifCond .ne 6, 3) := by decide +kernel
theorem dX4_plug_44 : decode cX4_plug 44 = .ok (.bipush (-3), 2) := by decide +kernel
theorem dX4_plug_46 : decode cX4_plug 46 = .ok (.ireturn, 1) := by decide +kernel
theorem dX4_plug_47 : decode cX4_plug 47 = .ok (.aload_n 0, 1) := by decide +kernel
theorem dX4_plug_48 : decode cX4_plug 48 = .ok (.iload_n 2, 1) := by decide +kernel
theorem dX4_plug_49 : decode cX4_plug 49 = .ok (.invokevirtual 168, 3) := by decide +kernel
theorem dX4_plug_52 : decode cX4_plug 52 = .ok (.ifCond .le 30, 3) := by decide +kernel
theorem dX4_plug_55 : decode cX4_plug 55 = .ok (.aload_n 0, 1) := by decide +kernel
theorem dX4_plug_56 : decode cX4_plug 56 = .ok (.iload_n 3, 1) := by decide +kernel
theorem dX4_plug_57 : decode cX4_plug 57 = .ok (.invokevirtual 168, 3) := by decide +kernel
theorem dX4_plug_60 : decode cX4_plug 60 = .ok (.ifCond .le 22, 3) := by decide +kernel
theorem dX4_plug_63 : decode cX4_plug 63 = .ok (.aload_n 0, 1) := by decide +kernel
theorem dX4_plug_64 : decode cX4_plug 64 = .ok (.iload_n 2, 1) := by decide +kernel
theorem dX4_plug_65 : decode cX4_plug 65 = .ok (.invokevirtual 168, 3) := by decide +kernel
theorem dX4_plug_68 : decode cX4_plug 68 = .ok (.aload_n 0, 1) := by decide +kernel
theorem dX4_plug_69 : decode cX4_plug 69 = .ok (.iload_n 3, 1) := by decide +kernel
theorem dX4_plug_70 : decode cX4_plug 70 = .ok (.invokevirtual 168, 3) := by decide +kernel
theorem dX4_plug_73 : decode cX4_plug 73 = .ok (.imul, 1) := by decide +kernel
theorem dX4_plug_74 : decode cX4_plug 74 = .ok (.bipush 6, 2) := by decide +kernel
theorem dX4_plug_76 : decode cX4_plug 76 = .ok (.if_icmp .le 6, 3) := by decide +kernel
theorem dX4_plug_79 : decode cX4_plug 79 = .ok (.bipush (-4), 2) := by decide +kernel
theorem dX4_plug_81 : decode cX4_plug 81 = .ok (.ireturn, 1) := by decide +kernel
theorem dX4_plug_82 : decode cX4_plug 82 = .ok (.aload_n 0, 1) := by decide +kernel
theorem dX4_plug_83 : decode cX4_plug 83 = .ok (.aload_n 0, 1) := by decide +kernel
theorem dX4_plug_84 : decode cX4_plug 84 = .ok (.getfield 23, 3) := by decide +kernel
theorem dX4_plug_87 : decode cX4_plug 87 = .ok (.bipush 30, 2) := by decide +kernel
theorem dX4_plug_89 : decode cX4_plug 89 = .ok (.iload_n 2, 1) := by decide +kernel
theorem dX4_plug_90 : decode cX4_plug 90 = .ok (.imul, 1) := by decide +kernel
theorem dX4_plug_91 : decode cX4_plug 91 = .ok (.iconst 3, 1) := by decide +kernel
theorem dX4_plug_92 : decode cX4_plug 92 = .ok (.invokevirtual 144, 3) := by decide +kernel
theorem dX4_plug_95 : decode cX4_plug 95 = .ok (.aload_n 0, 1) := by decide +kernel
theorem dX4_plug_96 : decode cX4_plug 96 = .ok (.invokevirtual 159, 3) := by decide +kernel
theorem dX4_plug_99 : decode cX4_plug 99 = .ok (.iconst 0, 1) := by decide +kernel
theorem dX4_plug_100 : decode cX4_plug 100 = .ok (.istore 4, 2) := by decide +kernel
theorem dX4_plug_102 : decode cX4_plug 102 = .ok (.iload 4, 2) := by decide +kernel
theorem dX4_plug_104 : decode cX4_plug 104 = .ok (.bipush 30, 2) := by decide +kernel
theorem dX4_plug_106 : decode cX4_plug 106 = .ok (.if_icmp .ge 69, 3) := by decide +kernel
theorem dX4_plug_109 : decode cX4_plug 109 = .ok (.aload_n 0, 1) := by decide +kernel
theorem dX4_plug_110 : decode cX4_plug 110 = .ok (.getfield 38, 3) := by decide +kernel
theorem dX4_plug_113 : decode cX4_plug 113 = .ok (.iload 4, 2) := by decide +kernel
theorem dX4_plug_115 : decode cX4_plug 115 = .ok (.laload, 1) := by decide +kernel
theorem dX4_plug_116 : decode cX4_plug 116 = .ok (.lconst 0, 1) := by decide +kernel
theorem dX4_plug_117 : decode cX4_plug 117 = .ok (.lcmp, 1) := by decide +kernel
theorem dX4_plug_118 : decode cX4_plug 118 = .ok (.ifCond .eq 51, 3) := by decide +kernel
theorem dX4_plug_121 : decode cX4_plug 121 = .ok (.aload_n 0, 1) := by decide +kernel
theorem dX4_plug_122 : decode cX4_plug 122 = .ok (.iload 4, 2) := by decide +kernel
theorem dX4_plug_124 : decode cX4_plug 124 = .ok (.iload_n 3, 1) := by decide +kernel
theorem dX4_plug_125 : decode cX4_plug 125 = .ok (.invokevirtual 193, 3) := by decide +kernel
theorem dX4_plug_128 : decode cX4_plug 128 = .ok (.iconst 0, 1) := by decide +kernel
theorem dX4_plug_129 : decode cX4_plug 129 = .ok (.istore 5, 2) := by decide +kernel
theorem dX4_plug_131 : decode cX4_plug 131 = .ok (.iload 5, 2) := by decide +kernel
theorem dX4_plug_133 : decode cX4_plug 133 = .ok (.bipush 30, 2) := by decide +kernel
theorem dX4_plug_135 : decode cX4_plug 135 = .ok (.if_icmp .ge 34, 3) := by decide +kernel
theorem dX4_plug_138 : decode cX4_plug 138 = .ok (.aload_n 0, 1) := by decide +kernel
theorem dX4_plug_139 : decode cX4_plug 139 = .ok (.getfield 44, 3) := by decide +kernel
theorem dX4_plug_142 : decode cX4_plug 142 = .ok (.iload 5, 2) := by decide +kernel
theorem dX4_plug_144 : decode cX4_plug 144 = .ok (.dup2, 1) := by decide +kernel
theorem dX4_plug_145 : decode cX4_plug 145 = .ok (.laload, 1) := by decide +kernel
theorem dX4_plug_146 : decode cX4_plug 146 = .ok (.aload_n 0, 1) := by decide +kernel
theorem dX4_plug_147 : decode cX4_plug 147 = .ok (.getfield 38, 3) := by decide +kernel
theorem dX4_plug_150 : decode cX4_plug 150 = .ok (.iload 4, 2) := by decide +kernel
theorem dX4_plug_152 : decode cX4_plug 152 = .ok (.laload, 1) := by decide +kernel
theorem dX4_plug_153 : decode cX4_plug 153 = .ok (.aload_n 0, 1) := by decide +kernel
theorem dX4_plug_154 : decode cX4_plug 154 = .ok (.getfield 56, 3) := by decide +kernel
theorem dX4_plug_157 : decode cX4_plug 157 = .ok (.iload 5, 2) := by decide +kernel
theorem dX4_plug_159 : decode cX4_plug 159 = .ok (.laload, 1) := by decide +kernel
theorem dX4_plug_160 : decode cX4_plug 160 = .ok (.lmul, 1) := by decide +kernel
theorem dX4_plug_161 : decode cX4_plug 161 = .ok (.ladd, 1) := by decide +kernel
theorem dX4_plug_162 : decode cX4_plug 162 = .ok (.lastore, 1) := by decide +kernel
theorem dX4_plug_163 : decode cX4_plug 163 = .ok (.iinc 5 1, 3) := by decide +kernel
theorem dX4_plug_166 : decode cX4_plug 166 = .ok (.goto (-35), 3) := by decide +kernel
theorem dX4_plug_169 : decode cX4_plug 169 = .ok (.iinc 4 1, 3) := by decide +kernel
theorem dX4_plug_172 : decode cX4_plug 172 = .ok (.goto (-70), 3) := by decide +kernel
theorem dX4_plug_175 : decode cX4_plug 175 = .ok (.iconst 0, 1) := by decide +kernel
theorem dX4_plug_176 : decode cX4_plug 176 = .ok (.istore 4, 2) := by decide +kernel
theorem dX4_plug_178 : decode cX4_plug 178 = .ok (.iload 4, 2) := by decide +kernel
theorem dX4_plug_180 : decode cX4_plug 180 = .ok (.bipush 30, 2) := by decide +kernel
theorem dX4_plug_182 : decode cX4_plug 182 = .ok (.if_icmp .ge 22, 3) := by decide +kernel
theorem dX4_plug_185 : decode cX4_plug 185 = .ok (.aload_n 0, 1) := by decide +kernel
theorem dX4_plug_186 : decode cX4_plug 186 = .ok (.getfield 44, 3) := by decide +kernel
theorem dX4_plug_189 : decode cX4_plug 189 = .ok (.iload 4, 2) := by decide +kernel
theorem dX4_plug_191 : decode cX4_plug 191 = .ok (.dup2, 1) := by decide +kernel
theorem dX4_plug_192 : decode cX4_plug 192 = .ok (.laload, 1) := by decide +kernel
theorem dX4_plug_193 : decode cX4_plug 193 = .ok (.ldc2_w 132, 3) := by decide +kernel
theorem dX4_plug_196 : decode cX4_plug 196 = .ok (.ldiv, 1) := by decide +kernel
theorem dX4_plug_197 : decode cX4_plug 197 = .ok (.lastore, 1) := by decide +kernel
theorem dX4_plug_198 : decode cX4_plug 198 = .ok (.iinc 4 1, 3) := by decide +kernel
theorem dX4_plug_201 : decode cX4_plug 201 = .ok (.goto (-23), 3) := by decide +kernel
theorem dX4_plug_204 : decode cX4_plug 204 = .ok (.aload_n 0, 1) := by decide +kernel
theorem dX4_plug_205 : decode cX4_plug 205 = .ok (.iload_n 1, 1) := by decide +kernel
theorem dX4_plug_206 : decode cX4_plug 206 = .ok (.invokevirtual 165, 3) := by decide +kernel
theorem dX4_plug_209 : decode cX4_plug 209 = .ok (.ireturn, 1) := by decide +kernel
theorem dX4_image_0 : decode cX4_image 0 = .ok (.iload_n 1, 1) := by decide +kernel
theorem dX4_image_1 : decode cX4_image 1 = .ok (.iconst 0, 1) := by decide +kernel
theorem dX4_image_2 : decode cX4_image 2 = .ok (.iconst 1, 1) := by decide +kernel
theorem dX4_image_3 : decode cX4_image 3 = .ok (.invokestatic 101, 3) := by decide +kernel
theorem dX4_image_6 : decode cX4_image 6 = .ok (.ifCond .ne 6, 3) := by decide +kernel
theorem dX4_image_9 : decode cX4_image 9 = .ok (.bipush (-2), 2) := by decide +kernel
theorem dX4_image_11 : decode cX4_image 11 = .ok (.ireturn, 1) := by decide +kernel
theorem dX4_image_12 : decode cX4_image 12 = .ok (.iconst 0, 1) := by decide +kernel
theorem dX4_image_13 : decode cX4_image 13 = .ok (.istore_n 2, 1) := by decide +kernel
theorem dX4_image_14 : decode cX4_image 14 = .ok (.iload_n 2, 1) := by decide +kernel
theorem dX4_image_15 : decode cX4_image 15 = .ok (.sipush 240, 3) := by decide +kernel
theorem dX4_image_18 : decode cX4_image 18 = .ok (.if_icmp .ge 27, 3) := by decide +kernel
theorem dX4_image_21 : decode cX4_image 21 = .ok (.aload_n 0, 1) := by decide +kernel
theorem dX4_image_22 : decode cX4_image 22 = .ok (.getfield 59, 3) := by decide +kernel
theorem dX4_image_25 : decode cX4_image 25 = .ok (.sipush 240, 3) := by decide +kernel
theorem dX4_image_28 : decode cX4_image 28 = .ok (.iload_n 1, 1) := by decide +kernel
theorem dX4_image_29 : decode cX4_image 29 = .ok (.imul, 1) := by decide +kernel
theorem dX4_image_30 : decode cX4_image 30 = .ok (.iload_n 2, 1) := by decide +kernel
theorem dX4_image_31 : decode cX4_image 31 = .ok (.iadd, 1) := by decide +kernel
theorem dX4_image_32 : decode cX4_image 32 = .ok (.aload_n 0, 1) := by decide +kernel
theorem dX4_image_33 : decode cX4_image 33 = .ok (.getfield 23, 3) := by decide +kernel
theorem dX4_image_36 : decode cX4_image 36 = .ok (.iload_n 2, 1) := by decide +kernel
theorem dX4_image_37 : decode cX4_image 37 = .ok (.laload, 1) := by decide +kernel
theorem dX4_image_38 : decode cX4_image 38 = .ok (.lastore, 1) := by decide +kernel
theorem dX4_image_39 : decode cX4_image 39 = .ok (.iinc 2 1, 3) := by decide +kernel
theorem dX4_image_42 : decode cX4_image 42 = .ok (.goto (-28), 3) := by decide +kernel
theorem dX4_image_45 : decode cX4_image 45 = .ok (.aload_n 0, 1) := by decide +kernel
theorem dX4_image_46 : decode cX4_image 46 = .ok (.getfield 62, 3) := by decide +kernel
theorem dX4_image_49 : decode cX4_image 49 = .ok (.iload_n 1, 1) := by decide +kernel
theorem dX4_image_50 : decode cX4_image 50 = .ok (.iconst 1, 1) := by decide +kernel
theorem dX4_image_51 : decode cX4_image 51 = .ok (.bastore, 1) := by decide +kernel
theorem dX4_image_52 : decode cX4_image 52 = .ok (.iconst 1, 1) := by decide +kernel
theorem dX4_image_53 : decode cX4_image 53 = .ok (.ireturn, 1) := by decide +kernel
theorem dX4_restore_0 : decode cX4_restore 0 = .ok (.iload_n 1, 1) := by decide +kernel
theorem dX4_restore_1 : decode cX4_restore 1 = .ok (.iconst 0, 1) := by decide +kernel
theorem dX4_restore_2 : decode cX4_restore 2 = .ok (.iconst 1, 1) := by decide +kernel
theorem dX4_restore_3 : decode cX4_restore 3 = .ok (.invokestatic 101, 3) := by decide +kernel
theorem dX4_restore_6 : decode cX4_restore 6 = .ok (.ifCond .ne 6, 3) := by decide +kernel
theorem dX4_restore_9 : decode cX4_restore 9 = .ok (.bipush (-2), 2) := by decide +kernel
theorem dX4_restore_11 : decode cX4_restore 11 = .ok (.ireturn, 1) := by decide +kernel
theorem dX4_restore_12 : decode cX4_restore 12 = .ok (.aload_n 0, 1) := by decide +kernel
theorem dX4_restore_13 : decode cX4_restore 13 = .ok (.getfield 62, 3) := by decide +kernel
theorem dX4_restore_16 : decode cX4_restore 16 = .ok (.iload_n 1, 1) := by decide +kernel
theorem dX4_restore_17 : decode cX4_restore 17 = .ok (.baload, 1) := by decide +kernel
theorem dX4_restore_18 : decode cX4_restore 18 = .ok (.ifCond .ne 6, 3) := by decide +kernel
theorem dX4_restore_21 : decode cX4_restore 21 = .ok (.bipush (-3), 2) := by decide +kernel
theorem dX4_restore_23 : decode cX4_restore 23 = .ok (.ireturn, 1) := by decide +kernel
theorem dX4_restore_24 : decode cX4_restore 24 = .ok (.iconst 0, 1) := by decide +kernel
theorem dX4_restore_25 : decode cX4_restore 25 = .ok (.istore_n 2, 1) := by decide +kernel
theorem dX4_restore_26 : decode cX4_restore 26 = .ok (.iload_n 2, 1) := by decide +kernel
theorem dX4_restore_27 : decode cX4_restore 27 = .ok (.sipush 240, 3) := by decide +kernel
theorem dX4_restore_30 : decode cX4_restore 30 = .ok (.if_icmp .ge 27, 3) := by decide +kernel
theorem dX4_restore_33 : decode cX4_restore 33 = .ok (.aload_n 0, 1) := by decide +kernel
theorem dX4_restore_34 : decode cX4_restore 34 = .ok (.getfield 23, 3) := by decide +kernel
theorem dX4_restore_37 : decode cX4_restore 37 = .ok (.iload_n 2, 1) := by decide +kernel
theorem dX4_restore_38 : decode cX4_restore 38 = .ok (.aload_n 0, 1) := by decide +kernel
theorem dX4_restore_39 : decode cX4_restore 39 = .ok (.getfield 59, 3) := by decide +kernel
theorem dX4_restore_42 : decode cX4_restore 42 = .ok (.sipush 240, 3) := by decide +kernel
theorem dX4_restore_45 : decode cX4_restore 45 = .ok (.iload_n 1, 1) := by decide +kernel
theorem dX4_restore_46 : decode cX4_restore 46 = .ok (.imul, 1) := by decide +kernel
theorem dX4_restore_47 : decode cX4_restore 47 = .ok (.iload_n 2, 1) := by decide +kernel
theorem dX4_restore_48 : decode cX4_restore 48 = .ok (.iadd, 1) := by decide +kernel
theorem dX4_restore_49 : decode cX4_restore 49 = .ok (.laload, 1) := by decide +kernel
theorem dX4_restore_50 : decode cX4_restore 50 = .ok (.lastore, 1) := by decide +kernel
theorem dX4_restore_51 : decode cX4_restore 51 = .ok (.iinc 2 1, 3) := by decide +kernel
theorem dX4_restore_54 : decode cX4_restore 54 = .ok (.goto (-28), 3) := by decide +kernel
theorem dX4_restore_57 : decode cX4_restore 57 = .ok (.iconst 1, 1) := by decide +kernel
theorem dX4_restore_58 : decode cX4_restore 58 = .ok (.ireturn, 1) := by decide +kernel
theorem dX4_ofDegree_0 : decode cX4_ofDegree 0 = .ok (.iconst 0, 1) := by decide +kernel
theorem dX4_ofDegree_1 : decode cX4_ofDegree 1 = .ok (.istore_n 3, 1) := by decide +kernel
theorem dX4_ofDegree_2 : decode cX4_ofDegree 2 = .ok (.bipush 30, 2) := by decide +kernel
theorem dX4_ofDegree_4 : decode cX4_ofDegree 4 = .ok (.istore 4, 2) := by decide +kernel
theorem dX4_ofDegree_6 : decode cX4_ofDegree 6 = .ok (.bipush 29, 2) := by decide +kernel
theorem dX4_ofDegree_8 : decode cX4_ofDegree 8 = .ok (.istore 5, 2) := by decide +kernel
theorem dX4_ofDegree_10 : decode cX4_ofDegree 10 = .ok (.iload 5, 2) := by decide +kernel
theorem dX4_ofDegree_12 : decode cX4_ofDegree 12 = .ok (.ifCond .lt 48, 3) := by decide +kernel
theorem dX4_ofDegree_15 : decode cX4_ofDegree 15 = .ok (.iload_n 3, 1) := by decide +kernel
theorem dX4_ofDegree_16 : decode cX4_ofDegree 16 = .ok (.aload_n 0, 1) := by decide +kernel
theorem dX4_ofDegree_17 : decode cX4_ofDegree 17 = .ok (.getfield 13, 3) := by decide +kernel
theorem dX4_ofDegree_20 : decode cX4_ofDegree 20 = .ok (.iload 5, 2) := by decide +kernel
theorem dX4_ofDegree_22 : decode cX4_ofDegree 22 = .ok (.iaload, 1) := by decide +kernel
theorem dX4_ofDegree_23 : decode cX4_ofDegree 23 = .ok (.iload_n 1, 1) := by decide +kernel
theorem dX4_ofDegree_24 : decode cX4_ofDegree 24 = .ok (.if_icmp .ne 7, 3) := by decide +kernel
theorem dX4_ofDegree_27 : decode cX4_ofDegree 27 = .ok (.iconst 1, 1) := by decide +kernel
theorem dX4_ofDegree_28 : decode cX4_ofDegree 28 = .ok (.goto 4, 3) := by decide +kernel
theorem dX4_ofDegree_31 : decode cX4_ofDegree 31 = .ok (.iconst 0, 1) := by decide +kernel
theorem dX4_ofDegree_32 : decode cX4_ofDegree 32 = .ok (.iadd, 1) := by decide +kernel
theorem dX4_ofDegree_33 : decode cX4_ofDegree 33 = .ok (.istore_n 3, 1) := by decide +kernel
theorem dX4_ofDegree_34 : decode cX4_ofDegree 34 = .ok (.aload_n 0, 1) := by decide +kernel
theorem dX4_ofDegree_35 : decode cX4_ofDegree 35 = .ok (.getfield 13, 3) := by decide +kernel
theorem dX4_ofDegree_38 : decode cX4_ofDegree 38 = .ok (.iload 5, 2) := by decide +kernel
theorem dX4_ofDegree_40 : decode cX4_ofDegree 40 = .ok (.iaload, 1) := by decide +kernel
theorem dX4_ofDegree_41 : decode cX4_ofDegree 41 = .ok (.iload_n 1, 1) := by decide +kernel
theorem dX4_ofDegree_42 : decode cX4_ofDegree 42 = .ok (.if_icmp .ne 8, 3) := by decide +kernel
theorem dX4_ofDegree_45 : decode cX4_ofDegree 45 = .ok (.iload 5, 2) := by decide +kernel
theorem dX4_ofDegree_47 : decode cX4_ofDegree 47 = .ok (.goto 5, 3) := by decide +kernel
theorem dX4_ofDegree_50 : decode cX4_ofDegree 50 = .ok (.iload 4, 2) := by decide +kernel
theorem dX4_ofDegree_52 : decode cX4_ofDegree 52 = .ok (.istore 4, 2) := by decide +kernel
theorem dX4_ofDegree_54 : decode cX4_ofDegree 54 = .ok (.iinc 5 (-1), 3) := by decide +kernel
theorem dX4_ofDegree_57 : decode cX4_ofDegree 57 = .ok (.goto (-47), 3) := by decide +kernel
theorem dX4_ofDegree_60 : decode cX4_ofDegree 60 = .ok (.iload_n 2, 1) := by decide +kernel
theorem dX4_ofDegree_61 : decode cX4_ofDegree 61 = .ok (.ifCond .eq 8, 3) := by decide +kernel
theorem dX4_ofDegree_64 : decode cX4_ofDegree 64 = .ok (.iload 4, 2) := by decide +kernel
theorem dX4_ofDegree_66 : decode cX4_ofDegree 66 = .ok (.goto 4, 3) := by decide +kernel
theorem dX4_ofDegree_69 : decode cX4_ofDegree 69 = .ok (.iload_n 3, 1) := by decide +kernel
theorem dX4_ofDegree_70 : decode cX4_ofDegree 70 = .ok (.ireturn, 1) := by decide +kernel
theorem dX4_count_0 : decode cX4_count 0 = .ok (.iload_n 1, 1) := by decide +kernel
theorem dX4_count_1 : decode cX4_count 1 = .ok (.ifCond .ne 37, 3) := by decide +kernel
theorem dX4_count_4 : decode cX4_count 4 = .ok (.iconst 0, 1) := by decide +kernel
theorem dX4_count_5 : decode cX4_count 5 = .ok (.istore_n 2, 1) := by decide +kernel
theorem dX4_count_6 : decode cX4_count 6 = .ok (.iconst 0, 1) := by decide +kernel
theorem dX4_count_7 : decode cX4_count 7 = .ok (.istore_n 3, 1) := by decide +kernel
theorem dX4_count_8 : decode cX4_count 8 = .ok (.iload_n 3, 1) := by decide +kernel
theorem dX4_count_9 : decode cX4_count 9 = .ok (.bipush 8, 2) := by decide +kernel
theorem dX4_count_11 : decode cX4_count 11 = .ok (.if_icmp .ge 25, 3) := by decide +kernel
theorem dX4_count_14 : decode cX4_count 14 = .ok (.iload_n 2, 1) := by decide +kernel
theorem dX4_count_15 : decode cX4_count 15 = .ok (.aload_n 0, 1) := by decide +kernel
theorem dX4_count_16 : decode cX4_count 16 = .ok (.iload_n 3, 1) := by decide +kernel
theorem dX4_count_17 : decode cX4_count 17 = .ok (.invokevirtual 168, 3) := by decide +kernel
theorem dX4_count_20 : decode cX4_count 20 = .ok (.ifCond .lt 7, 3) := by decide +kernel
theorem dX4_count_23 : decode cX4_count 23 = .ok (.iconst 1, 1) := by decide +kernel
theorem dX4_count_24 : decode cX4_count 24 = .ok (.goto 4, 3) := by decide +kernel
theorem dX4_count_27 : decode cX4_count 27 = .ok (.iconst 0, 1) := by decide +kernel
theorem dX4_count_28 : decode cX4_count 28 = .ok (.iadd, 1) := by decide +kernel
theorem dX4_count_29 : decode cX4_count 29 = .ok (.istore_n 2, 1) := by decide +kernel
theorem dX4_count_30 : decode cX4_count 30 = .ok (.iinc 3 1, 3) := by decide +kernel
theorem dX4_count_33 : decode cX4_count 33 = .ok (.goto (-25), 3) := by decide +kernel
theorem dX4_count_36 : decode cX4_count 36 = .ok (.iload_n 2, 1) := by decide +kernel
theorem dX4_count_37 : decode cX4_count 37 = .ok (.ireturn, 1) := by decide +kernel
theorem dX4_count_38 : decode cX4_count 38 = .ok (.iload_n 1, 1) := by decide +kernel
theorem dX4_count_39 : decode cX4_count 39 = .ok (.iconst 1, 1) := by decide +kernel
theorem dX4_count_40 : decode cX4_count 40 = .ok (.if_icmp .ne 33, 3) := by decide +kernel
theorem dX4_count_43 : decode cX4_count 43 = .ok (.aload_n 0, 1) := by decide +kernel
theorem dX4_count_44 : decode cX4_count 44 = .ok (.getfield 62, 3) := by decide +kernel
theorem dX4_count_47 : decode cX4_count 47 = .ok (.iconst 0, 1) := by decide +kernel
theorem dX4_count_48 : decode cX4_count 48 = .ok (.baload, 1) := by decide +kernel
theorem dX4_count_49 : decode cX4_count 49 = .ok (.ifCond .eq 7, 3) := by decide +kernel
theorem dX4_count_52 : decode cX4_count 52 = .ok (.iconst 1, 1) := by decide +kernel
theorem dX4_count_53 : decode cX4_count 53 = .ok (.goto 4, 3) := by decide +kernel
theorem dX4_count_56 : decode cX4_count 56 = .ok (.iconst 0, 1) := by decide +kernel
theorem dX4_count_57 : decode cX4_count 57 = .ok (.aload_n 0, 1) := by decide +kernel
theorem dX4_count_58 : decode cX4_count 58 = .ok (.getfield 62, 3) := by decide +kernel
theorem dX4_count_61 : decode cX4_count 61 = .ok (.iconst 1, 1) := by decide +kernel
theorem dX4_count_62 : decode cX4_count 62 = .ok (.baload, 1) := by decide +kernel
theorem dX4_count_63 : decode cX4_count 63 = .ok (.ifCond .eq 7, 3) := by decide +kernel
theorem dX4_count_66 : decode cX4_count 66 = .ok (.iconst 2, 1) := by decide +kernel
theorem dX4_count_67 : decode cX4_count 67 = .ok (.goto 4, 3) := by decide +kernel
theorem dX4_count_70 : decode cX4_count 70 = .ok (.iconst 0, 1) := by decide +kernel
theorem dX4_count_71 : decode cX4_count 71 = .ok (.iadd, 1) := by decide +kernel
theorem dX4_count_72 : decode cX4_count 72 = .ok (.ireturn, 1) := by decide +kernel
theorem dX4_count_73 : decode cX4_count 73 = .ok (.iload_n 1, 1) := by decide +kernel
theorem dX4_count_74 : decode cX4_count 74 = .ok (.bipush 10, 2) := by decide +kernel
theorem dX4_count_76 : decode cX4_count 76 = .ok (.bipush 16, 2) := by decide +kernel
theorem dX4_count_78 : decode cX4_count 78 = .ok (.invokestatic 101, 3) := by decide +kernel
theorem dX4_count_81 : decode cX4_count 81 = .ok (.ifCond .eq 15, 3) := by decide +kernel
theorem dX4_count_84 : decode cX4_count 84 = .ok (.aload_n 0, 1) := by decide +kernel
theorem dX4_count_85 : decode cX4_count 85 = .ok (.iload_n 1, 1) := by decide +kernel
theorem dX4_count_86 : decode cX4_count 86 = .ok (.bipush 10, 2) := by decide +kernel
theorem dX4_count_88 : decode cX4_count 88 = .ok (.isub, 1) := by decide +kernel
theorem dX4_count_89 : decode cX4_count 89 = .ok (.iconst 0, 1) := by decide +kernel
theorem dX4_count_90 : decode cX4_count 90 = .ok (.invokevirtual 196, 3) := by decide +kernel
theorem dX4_count_93 : decode cX4_count 93 = .ok (.goto 28, 3) := by decide +kernel
theorem dX4_count_96 : decode cX4_count 96 = .ok (.iload_n 1, 1) := by decide +kernel
theorem dX4_count_97 : decode cX4_count 97 = .ok (.bipush 20, 2) := by decide +kernel
theorem dX4_count_99 : decode cX4_count 99 = .ok (.bipush 26, 2) := by decide +kernel
theorem dX4_count_101 : decode cX4_count 101 = .ok (.invokestatic 101, 3) := by decide +kernel
theorem dX4_count_104 : decode cX4_count 104 = .ok (.ifCond .eq 15, 3) := by decide +kernel
theorem dX4_count_107 : decode cX4_count 107 = .ok (.aload_n 0, 1) := by decide +kernel
theorem dX4_count_108 : decode cX4_count 108 = .ok (.iload_n 1, 1) := by decide +kernel
theorem dX4_count_109 : decode cX4_count 109 = .ok (.bipush 20, 2) := by decide +kernel
theorem dX4_count_111 : decode cX4_count 111 = .ok (.isub, 1) := by decide +kernel
theorem dX4_count_112 : decode cX4_count 112 = .ok (.iconst 1, 1) := by decide +kernel
theorem dX4_count_113 : decode cX4_count 113 = .ok (.invokevirtual 196, 3) := by decide +kernel
theorem dX4_count_116 : decode cX4_count 116 = .ok (.goto 5, 3) := by decide +kernel
theorem dX4_count_119 : decode cX4_count 119 = .ok (.bipush (-2), 2) := by decide +kernel
theorem dX4_count_121 : decode cX4_count 121 = .ok (.ireturn, 1) := by decide +kernel
end
section
theorem dX0_init_0 : decode cX0_init 0 = .ok (.aload_n 0, 1) := by decide +kernel
theorem dX0_init_1 : decode cX0_init 1 = .ok (.invokespecial 3, 3) := by decide +kernel
theorem dX0_init_4 : decode cX0_init 4 = .ok (.aload_n 0, 1) := by decide +kernel
theorem dX0_init_5 : decode cX0_init 5 = .ok (.bipush 30, 2) := by decide +kernel
theorem dX0_init_7 : decode cX0_init 7 = .ok (.newarray .long, 2) := by decide +kernel
theorem dX0_init_9 : decode cX0_init 9 = .ok (.putfield 9, 3) := by decide +kernel
theorem dX0_init_12 : decode cX0_init 12 = .ok (.aload_n 0, 1) := by decide +kernel
theorem dX0_init_13 : decode cX0_init 13 = .ok (.bipush 30, 2) := by decide +kernel
theorem dX0_init_15 : decode cX0_init 15 = .ok (.newarray .long, 2) := by decide +kernel
theorem dX0_init_17 : decode cX0_init 17 = .ok (.putfield 15, 3) := by decide +kernel
theorem dX0_init_20 : decode cX0_init 20 = .ok (.aload_n 0, 1) := by decide +kernel
theorem dX0_init_21 : decode cX0_init 21 = .ok (.aload_n 1, 1) := by decide +kernel
theorem dX0_init_22 : decode cX0_init 22 = .ok (.putfield 18, 3) := by decide +kernel
theorem dX0_init_25 : decode cX0_init 25 = .ok (.return_, 1) := by decide +kernel
theorem dX0_fromWeights_0 : decode cX0_fromWeights 0 = .ok (.iload_n 1, 1) := by decide +kernel
theorem dX0_fromWeights_1 : decode cX0_fromWeights 1 = .ok (.ifCond .ne 13, 3) := by decide +kernel
theorem dX0_fromWeights_4 : decode cX0_fromWeights 4 = .ok (.aload_n 2, 1) := by decide +kernel
theorem dX0_fromWeights_5 : decode cX0_fromWeights 5 = .ok (.iconst 0, 1) := by decide +kernel
theorem dX0_fromWeights_6 : decode cX0_fromWeights 6 = .ok (.aload_n 3, 1) := by decide +kernel
theorem dX0_fromWeights_7 : decode cX0_fromWeights 7 = .ok (.iconst 0, 1) := by decide +kernel
theorem dX0_fromWeights_8 : decode cX0_fromWeights 8 = .ok (.bipush 30, 2) := by decide +kernel
theorem dX0_fromWeights_10 : decode cX0_fromWeights 10 = .ok (.invokestatic 22, 3) := by decide +kernel
theorem dX0_fromWeights_13 : decode cX0_fromWeights 13 = .ok (.return_, 1) := by decide +kernel
theorem dX0_fromWeights_14 : decode cX0_fromWeights 14 = .ok (.aload_n 0, 1) := by decide +kernel
theorem dX0_fromWeights_15 : decode cX0_fromWeights 15 = .ok (.aload_n 2, 1) := by decide +kernel
theorem dX0_fromWeights_16 : decode cX0_fromWeights 16 = .ok (.aload_n 0, 1) := by decide +kernel
theorem dX0_fromWeights_17 : decode cX0_fromWeights 17 = .ok (.getfield 9, 3) := by decide +kernel
theorem dX0_fromWeights_20 : decode cX0_fromWeights 20 = .ok (.invokevirtual 28, 3) := by decide +kernel
theorem dX0_fromWeights_23 : decode cX0_fromWeights 23 = .ok (.iload_n 1, 1) := by decide +kernel
theorem dX0_fromWeights_24 : decode cX0_fromWeights 24 = .ok (.iconst 1, 1) := by decide +kernel
theorem dX0_fromWeights_25 : decode cX0_fromWeights 25 = .ok (.if_icmp .ne 27, 3) := by decide +kernel
theorem dX0_fromWeights_28 : decode cX0_fromWeights 28 = .ok (.aload_n 0, 1) := by decide +kernel
theorem dX0_fromWeights_29 : decode cX0_fromWeights 29 = .ok (.aload_n 0, 1) := by decide +kernel
theorem dX0_fromWeights_30 : decode cX0_fromWeights 30 = .ok (.getfield 9, 3) := by decide +kernel
theorem dX0_fromWeights_33 : decode cX0_fromWeights 33 = .ok (.aload_n 0, 1) := by decide +kernel
theorem dX0_fromWeights_34 : decode cX0_fromWeights 34 = .ok (.getfield 15, 3) := by decide +kernel
theorem dX0_fromWeights_37 : decode cX0_fromWeights 37 = .ok (.invokevirtual 32, 3) := by decide +kernel
theorem dX0_fromWeights_40 : decode cX0_fromWeights 40 = .ok (.aload_n 0, 1) := by decide +kernel
theorem dX0_fromWeights_41 : decode cX0_fromWeights 41 = .ok (.aload_n 0, 1) := by decide +kernel
theorem dX0_fromWeights_42 : decode cX0_fromWeights 42 = .ok (.getfield 15, 3) := by decide +kernel
theorem dX0_fromWeights_45 : decode cX0_fromWeights 45 = .ok (.aload_n 3, 1) := by decide +kernel
theorem dX0_fromWeights_46 : decode cX0_fromWeights 46 = .ok (.invokevirtual 35, 3) := by decide +kernel
theorem dX0_fromWeights_49 : decode cX0_fromWeights 49 = .ok (.goto 49, 3) := by decide +kernel
theorem dX0_fromWeights_52 : decode cX0_fromWeights 52 = .ok (.iload_n 1, 1) := by decide +kernel
theorem dX0_fromWeights_53 : decode cX0_fromWeights 53 = .ok (.iconst 2, 1) := by decide +kernel
theorem dX0_fromWeights_54 : decode cX0_fromWeights 54 = .ok (.if_icmp .ne 15, 3) := by decide +kernel
theorem dX0_fromWeights_57 : decode cX0_fromWeights 57 = .ok (.aload_n 0, 1) := by decide +kernel
theorem dX0_fromWeights_58 : decode cX0_fromWeights 58 = .ok (.aload_n 0, 1) := by decide +kernel
theorem dX0_fromWeights_59 : decode cX0_fromWeights 59 = .ok (.getfield 9, 3) := by decide +kernel
theorem dX0_fromWeights_62 : decode cX0_fromWeights 62 = .ok (.aload_n 3, 1) := by decide +kernel
theorem dX0_fromWeights_63 : decode cX0_fromWeights 63 = .ok (.invokevirtual 35, 3) := by decide +kernel
theorem dX0_fromWeights_66 : decode cX0_fromWeights 66 = .ok (.goto 32, 3) := by decide +kernel
theorem dX0_fromWeights_69 : decode cX0_fromWeights 69 = .ok (.iload_n 1, 1) := by decide +kernel
theorem dX0_fromWeights_70 : decode cX0_fromWeights 70 = .ok (.iconst 3, 1) := by decide +kernel
theorem dX0_fromWeights_71 : decode cX0_fromWeights 71 = .ok (.if_icmp .ne 15, 3) := by decide +kernel
theorem dX0_fromWeights_74 : decode cX0_fromWeights 74 = .ok (.aload_n 0, 1) := by decide +kernel
theorem dX0_fromWeights_75 : decode cX0_fromWeights 75 = .ok (.aload_n 0, 1) := by decide +kernel
theorem dX0_fromWeights_76 : decode cX0_fromWeights 76 = .ok (.getfield 9, 3) := by decide +kernel
theorem dX0_fromWeights_79 : decode cX0_fromWeights 79 = .ok (.aload_n 3, 1) := by decide +kernel
theorem dX0_fromWeights_80 : decode cX0_fromWeights 80 = .ok (.invokevirtual 38, 3) := by decide +kernel
theorem dX0_fromWeights_83 : decode cX0_fromWeights 83 = .ok (.goto 15, 3) := by decide +kernel
theorem dX0_fromWeights_86 : decode cX0_fromWeights 86 = .ok (.aload_n 0, 1) := by decide +kernel
theorem dX0_fromWeights_87 : decode cX0_fromWeights 87 = .ok (.getfield 9, 3) := by decide +kernel
theorem dX0_fromWeights_90 : decode cX0_fromWeights 90 = .ok (.iconst 0, 1) := by decide +kernel
theorem dX0_fromWeights_91 : decode cX0_fromWeights 91 = .ok (.aload_n 3, 1) := by decide +kernel
theorem dX0_fromWeights_92 : decode cX0_fromWeights 92 = .ok (.iconst 0, 1) := by decide +kernel
theorem dX0_fromWeights_93 : decode cX0_fromWeights 93 = .ok (.bipush 30, 2) := by decide +kernel
theorem dX0_fromWeights_95 : decode cX0_fromWeights 95 = .ok (.invokestatic 22, 3) := by decide +kernel
theorem dX0_fromWeights_98 : decode cX0_fromWeights 98 = .ok (.return_, 1) := by decide +kernel
theorem dX0_toWeights_0 : decode cX0_toWeights 0 = .ok (.iload_n 1, 1) := by decide +kernel
theorem dX0_toWeights_1 : decode cX0_toWeights 1 = .ok (.ifCond .ne 13, 3) := by decide +kernel
theorem dX0_toWeights_4 : decode cX0_toWeights 4 = .ok (.aload_n 2, 1) := by decide +kernel
theorem dX0_toWeights_5 : decode cX0_toWeights 5 = .ok (.iconst 0, 1) := by decide +kernel
theorem dX0_toWeights_6 : decode cX0_toWeights 6 = .ok (.aload_n 3, 1) := by decide +kernel
theorem dX0_toWeights_7 : decode cX0_toWeights 7 = .ok (.iconst 0, 1) := by decide +kernel
theorem dX0_toWeights_8 : decode cX0_toWeights 8 = .ok (.bipush 30, 2) := by decide +kernel
theorem dX0_toWeights_10 : decode cX0_toWeights 10 = .ok (.invokestatic 22, 3) := by decide +kernel
theorem dX0_toWeights_13 : decode cX0_toWeights 13 = .ok (.return_, 1) := by decide +kernel
theorem dX0_toWeights_14 : decode cX0_toWeights 14 = .ok (.iload_n 1, 1) := by decide +kernel
theorem dX0_toWeights_15 : decode cX0_toWeights 15 = .ok (.iconst 1, 1) := by decide +kernel
theorem dX0_toWeights_16 : decode cX0_toWeights 16 = .ok (.if_icmp .ne 27, 3) := by decide +kernel
theorem dX0_toWeights_19 : decode cX0_toWeights 19 = .ok (.aload_n 0, 1) := by decide +kernel
theorem dX0_toWeights_20 : decode cX0_toWeights 20 = .ok (.aload_n 2, 1) := by decide +kernel
theorem dX0_toWeights_21 : decode cX0_toWeights 21 = .ok (.aload_n 0, 1) := by decide +kernel
theorem dX0_toWeights_22 : decode cX0_toWeights 22 = .ok (.getfield 15, 3) := by decide +kernel
theorem dX0_toWeights_25 : decode cX0_toWeights 25 = .ok (.invokevirtual 41, 3) := by decide +kernel
theorem dX0_toWeights_28 : decode cX0_toWeights 28 = .ok (.aload_n 0, 1) := by decide +kernel
theorem dX0_toWeights_29 : decode cX0_toWeights 29 = .ok (.aload_n 0, 1) := by decide +kernel
theorem dX0_toWeights_30 : decode cX0_toWeights 30 = .ok (.getfield 15, 3) := by decide +kernel
theorem dX0_toWeights_33 : decode cX0_toWeights 33 = .ok (.aload_n 0, 1) := by decide +kernel
theorem dX0_toWeights_34 : decode cX0_toWeights 34 = .ok (.getfield 9, 3) := by decide +kernel
theorem dX0_toWeights_37 : decode cX0_toWeights 37 = .ok (.invokevirtual 32, 3) := by decide +kernel
theorem dX0_toWeights_40 : decode cX0_toWeights 40 = .ok (.goto 49, 3) := by decide +kernel
theorem dX0_toWeights_43 : decode cX0_toWeights 43 = .ok (.iload_n 1, 1) := by decide +kernel
theorem dX0_toWeights_44 : decode cX0_toWeights 44 = .ok (.iconst 2, 1) := by decide +kernel
theorem dX0_toWeights_45 : decode cX0_toWeights 45 = .ok (.if_icmp .ne 15, 3) := by decide +kernel
theorem dX0_toWeights_48 : decode cX0_toWeights 48 = .ok (.aload_n 0, 1) := by decide +kernel
theorem dX0_toWeights_49 : decode cX0_toWeights 49 = .ok (.aload_n 2, 1) := by decide +kernel
theorem dX0_toWeights_50 : decode cX0_toWeights 50 = .ok (.aload_n 0, 1) := by decide +kernel
theorem dX0_toWeights_51 : decode cX0_toWeights 51 = .ok (.getfield 9, 3) := by decide +kernel
theorem dX0_toWeights_54 : decode cX0_toWeights 54 = .ok (.invokevirtual 41, 3) := by decide +kernel
theorem dX0_toWeights_57 : decode cX0_toWeights 57 = .ok (.goto 32, 3) := by decide +kernel
theorem dX0_toWeights_60 : decode cX0_toWeights 60 = .ok (.iload_n 1, 1) := by decide +kernel
theorem dX0_toWeights_61 : decode cX0_toWeights 61 = .ok (.iconst 3, 1) := by decide +kernel
theorem dX0_toWeights_62 : decode cX0_toWeights 62 = .ok (.if_icmp .ne 15, 3) := by decide +kernel
theorem dX0_toWeights_65 : decode cX0_toWeights 65 = .ok (.aload_n 0, 1) := by decide +kernel
theorem dX0_toWeights_66 : decode cX0_toWeights 66 = .ok (.aload_n 2, 1) := by decide +kernel
theorem dX0_toWeights_67 : decode cX0_toWeights 67 = .ok (.aload_n 0, 1) := by decide +kernel
theorem dX0_toWeights_68 : decode cX0_toWeights 68 = .ok (.getfield 9, 3) := by decide +kernel
theorem dX0_toWeights_71 : decode cX0_toWeights 71 = .ok (.invokevirtual 44, 3) := by decide +kernel
theorem dX0_toWeights_74 : decode cX0_toWeights 74 = .ok (.goto 15, 3) := by decide +kernel
theorem dX0_toWeights_77 : decode cX0_toWeights 77 = .ok (.aload_n 2, 1) := by decide +kernel
theorem dX0_toWeights_78 : decode cX0_toWeights 78 = .ok (.iconst 0, 1) := by decide +kernel
theorem dX0_toWeights_79 : decode cX0_toWeights 79 = .ok (.aload_n 0, 1) := by decide +kernel
theorem dX0_toWeights_80 : decode cX0_toWeights 80 = .ok (.getfield 9, 3) := by decide +kernel
theorem dX0_toWeights_83 : decode cX0_toWeights 83 = .ok (.iconst 0, 1) := by decide +kernel
theorem dX0_toWeights_84 : decode cX0_toWeights 84 = .ok (.bipush 30, 2) := by decide +kernel
theorem dX0_toWeights_86 : decode cX0_toWeights 86 = .ok (.invokestatic 22, 3) := by decide +kernel
theorem dX0_toWeights_89 : decode cX0_toWeights 89 = .ok (.aload_n 0, 1) := by decide +kernel
theorem dX0_toWeights_90 : decode cX0_toWeights 90 = .ok (.aload_n 0, 1) := by decide +kernel
theorem dX0_toWeights_91 : decode cX0_toWeights 91 = .ok (.getfield 9, 3) := by decide +kernel
theorem dX0_toWeights_94 : decode cX0_toWeights 94 = .ok (.aload_n 3, 1) := by decide +kernel
theorem dX0_toWeights_95 : decode cX0_toWeights 95 = .ok (.invokevirtual 47, 3) := by decide +kernel
theorem dX0_toWeights_98 : decode cX0_toWeights 98 = .ok (.return_, 1) := by decide +kernel
theorem dX0_startFor_0 : decode cX0_startFor 0 = .ok (.aload_n 0, 1) := by decide +kernel
theorem dX0_startFor_1 : decode cX0_startFor 1 = .ok (.getfield 18, 3) := by decide +kernel
theorem dX0_startFor_4 : decode cX0_startFor 4 = .ok (.getfield 50, 3) := by decide +kernel
theorem dX0_startFor_7 : decode cX0_startFor 7 = .ok (.iload_n 1, 1) := by decide +kernel
theorem dX0_startFor_8 : decode cX0_startFor 8 = .ok (.iaload, 1) := by decide +kernel
theorem dX0_startFor_9 : decode cX0_startFor 9 = .ok (.invokestatic 56, 3) := by decide +kernel
theorem dX0_startFor_12 : decode cX0_startFor 12 = .ok (.ireturn, 1) := by decide +kernel
theorem dX0_endFor_0 : decode cX0_endFor 0 = .ok (.aload_n 0, 1) := by decide +kernel
theorem dX0_endFor_1 : decode cX0_endFor 1 = .ok (.getfield 18, 3) := by decide +kernel
theorem dX0_endFor_4 : decode cX0_endFor 4 = .ok (.getfield 50, 3) := by decide +kernel
theorem dX0_endFor_7 : decode cX0_endFor 7 = .ok (.iload_n 1, 1) := by decide +kernel
theorem dX0_endFor_8 : decode cX0_endFor 8 = .ok (.iaload, 1) := by decide +kernel
theorem dX0_endFor_9 : decode cX0_endFor 9 = .ok (.invokestatic 60, 3) := by decide +kernel
theorem dX0_endFor_12 : decode cX0_endFor 12 = .ok (.ireturn, 1) := by decide +kernel
theorem dX0_tableauxToWeights_0 : decode cX0_tableauxToWeights 0 = .ok (.iconst 0, 1) := by decide +kernel
theorem dX0_tableauxToWeights_1 : decode cX0_tableauxToWeights 1 = .ok (.istore_n 3, 1) := by decide +kernel
theorem dX0_tableauxToWeights_2 : decode cX0_tableauxToWeights 2 = .ok (.iload_n 3, 1) := by decide +kernel
theorem dX0_tableauxToWeights_3 : decode cX0_tableauxToWeights 3 = .ok (.bipush 30, 2) := by decide +kernel
theorem dX0_tableauxToWeights_5 : decode cX0_tableauxToWeights 5 = .ok (.if_icmp .ge 57, 3) := by decide +kernel
theorem dX0_tableauxToWeights_8 : decode cX0_tableauxToWeights 8 = .ok (.lconst 0, 1) := by decide +kernel
theorem dX0_tableauxToWeights_9 : decode cX0_tableauxToWeights 9 = .ok (.lstore 4, 2) := by decide +kernel
theorem dX0_tableauxToWeights_11 : decode cX0_tableauxToWeights 11 = .ok (.aload_n 0, 1) := by decide +kernel
theorem dX0_tableauxToWeights_12 : decode cX0_tableauxToWeights 12 = .ok (.iload_n 3, 1) := by decide +kernel
theorem dX0_tableauxToWeights_13 : decode cX0_tableauxToWeights 13 = .ok (.invokevirtual 63, 3) := by decide +kernel
theorem dX0_tableauxToWeights_16 : decode cX0_tableauxToWeights 16 = .ok (.istore 6, 2) := by decide +kernel
theorem dX0_tableauxToWeights_18 : decode cX0_tableauxToWeights 18 = .ok (.iload 6, 2) := by decide +kernel
theorem dX0_tableauxToWeights_20 : decode cX0_tableauxToWeights 20 = .ok (.iload_n 3, 1) := by decide +kernel
theorem dX0_tableauxToWeights_21 : decode cX0_tableauxToWeights 21 = .ok (.if_icmp .gt 30, 3) := by decide +kernel
theorem dX0_tableauxToWeights_24 : decode cX0_tableauxToWeights 24 = .ok (.lload 4, 2) := by decide +kernel
theorem dX0_tableauxToWeights_26 : decode cX0_tableauxToWeights 26 = .ok (.aload_n 1, 1) := by decide +kernel
theorem dX0_tableauxToWeights_27 : decode cX0_tableauxToWeights 27 = .ok (.iload 6, 2) := by decide +kernel
theorem dX0_tableauxToWeights_29 : decode cX0_tableauxToWeights 29 = .ok (.laload, 1) := by decide +kernel
theorem dX0_tableauxToWeights_30 : decode cX0_tableauxToWeights 30 = .ok (.aload_n 0, 1) := by decide +kernel
theorem dX0_tableauxToWeights_31 : decode cX0_tableauxToWeights 31 = .ok (.getfield 18, 3) := by decide +kernel
theorem dX0_tableauxToWeights_34 : decode cX0_tableauxToWeights 34 = .ok (.iload 6, 2) := by decide +kernel
theorem dX0_tableauxToWeights_36 : decode cX0_tableauxToWeights 36 = .ok (.iload_n 3, 1) := by decide +kernel
theorem dX0_tableauxToWeights_37 : decode cX0_tableauxToWeights 37 = .ok (.invokevirtual 66, 3) := by decide +kernel
theorem dX0_tableauxToWeights_40 : decode cX0_tableauxToWeights 40 = .ok (.i2l, 1) := by decide +kernel
theorem dX0_tableauxToWeights_41 : decode cX0_tableauxToWeights 41 = .ok (.lmul, 1) := by decide +kernel
theorem dX0_tableauxToWeights_42 : decode cX0_tableauxToWeights 42 = .ok (.ladd, 1) := by decide +kernel
theorem dX0_tableauxToWeights_43 : decode cX0_tableauxToWeights 43 = .ok (.lstore 4, 2) := by decide +kernel
theorem dX0_tableauxToWeights_45 : decode cX0_tableauxToWeights 45 = .ok (.iinc 6 1, 3) := by decide +kernel
theorem dX0_tableauxToWeights_48 : decode cX0_tableauxToWeights 48 = .ok (.goto (-30), 3) := by decide +kernel
theorem dX0_tableauxToWeights_51 : decode cX0_tableauxToWeights 51 = .ok (.aload_n 2, 1) := by decide +kernel
theorem dX0_tableauxToWeights_52 : decode cX0_tableauxToWeights 52 = .ok (.iload_n 3, 1) := by decide +kernel
theorem dX0_tableauxToWeights_53 : decode cX0_tableauxToWeights 53 = .ok (.lload 4, 2) := by decide +kernel
theorem dX0_tableauxToWeights_55 : decode cX0_tableauxToWeights 55 = .ok (.lastore, 1) := by decide +kernel
theorem dX0_tableauxToWeights_56 : decode cX0_tableauxToWeights 56 = .ok (.iinc 3 1, 3) := by decide +kernel
theorem dX0_tableauxToWeights_59 : decode cX0_tableauxToWeights 59 = .ok (.goto (-57), 3) := by decide +kernel
theorem dX0_tableauxToWeights_62 : decode cX0_tableauxToWeights 62 = .ok (.return_, 1) := by decide +kernel
theorem dX0_weightsToTableaux_0 : decode cX0_weightsToTableaux 0 = .ok (.iconst 0, 1) := by decide +kernel
theorem dX0_weightsToTableaux_1 : decode cX0_weightsToTableaux 1 = .ok (.istore_n 3, 1) := by decide +kernel
theorem dX0_weightsToTableaux_2 : decode cX0_weightsToTableaux 2 = .ok (.iload_n 3, 1) := by decide +kernel
theorem dX0_weightsToTableaux_3 : decode cX0_weightsToTableaux 3 = .ok (.bipush 30, 2) := by decide +kernel
theorem dX0_weightsToTableaux_5 : decode cX0_weightsToTableaux 5 = .ok (.if_icmp .ge 59, 3) := by decide +kernel
theorem dX0_weightsToTableaux_8 : decode cX0_weightsToTableaux 8 = .ok (.aload_n 1, 1) := by decide +kernel
theorem dX0_weightsToTableaux_9 : decode cX0_weightsToTableaux 9 = .ok (.iload_n 3, 1) := by decide +kernel
theorem dX0_weightsToTableaux_10 : decode cX0_weightsToTableaux 10 = .ok (.laload, 1) := by decide +kernel
theorem dX0_weightsToTableaux_11 : decode cX0_weightsToTableaux 11 = .ok (.lstore 4, 2) := by decide +kernel
theorem dX0_weightsToTableaux_13 : decode cX0_weightsToTableaux 13 = .ok (.aload_n 0, 1) := by decide +kernel
theorem dX0_weightsToTableaux_14 : decode cX0_weightsToTableaux 14 = .ok (.iload_n 3, 1) := by decide +kernel
theorem dX0_weightsToTableaux_15 : decode cX0_weightsToTableaux 15 = .ok (.invokevirtual 63, 3) := by decide +kernel
theorem dX0_weightsToTableaux_18 : decode cX0_weightsToTableaux 18 = .ok (.istore 6, 2) := by decide +kernel
theorem dX0_weightsToTableaux_20 : decode cX0_weightsToTableaux 20 = .ok (.iload 6, 2) := by decide +kernel
theorem dX0_weightsToTableaux_22 : decode cX0_weightsToTableaux 22 = .ok (.iload_n 3, 1) := by decide +kernel
theorem dX0_weightsToTableaux_23 : decode cX0_weightsToTableaux 23 = .ok (.if_icmp .ge 30, 3) := by decide +kernel
theorem dX0_weightsToTableaux_26 : decode cX0_weightsToTableaux 26 = .ok (.lload 4, 2) := by decide +kernel
theorem dX0_weightsToTableaux_28 : decode cX0_weightsToTableaux 28 = .ok (.aload_n 2, 1) := by decide +kernel
theorem dX0_weightsToTableaux_29 : decode cX0_weightsToTableaux 29 = .ok (.iload 6, 2) := by decide +kernel
theorem dX0_weightsToTableaux_31 : decode cX0_weightsToTableaux 31 = .ok (.laload, 1) := by decide +kernel
theorem dX0_weightsToTableaux_32 : decode cX0_weightsToTableaux 32 = .ok (.aload_n 0, 1) := by decide +kernel
theorem dX0_weightsToTableaux_33 : decode cX0_weightsToTableaux 33 = .ok (.getfield 18, 3) := by decide +kernel
theorem dX0_weightsToTableaux_36 : decode cX0_weightsToTableaux 36 = .ok (.iload 6, 2) := by decide +kernel
theorem dX0_weightsToTableaux_38 : decode cX0_weightsToTableaux 38 = .ok (.iload_n 3, 1) := by decide +kernel
theorem dX0_weightsToTableaux_39 : decode cX0_weightsToTableaux 39 = .ok (.invokevirtual 66, 3) := by decide +kernel
theorem dX0_weightsToTableaux_42 : decode cX0_weightsToTableaux 42 = .ok (.i2l, 1) := by decide +kernel
theorem dX0_weightsToTableaux_43 : decode cX0_weightsToTableaux 43 = .ok (.lmul, 1) := by decide +kernel
theorem dX0_weightsToTableaux_44 : decode cX0_weightsToTableaux 44 = .ok (.lsub, 1) := by decide +kernel
theorem dX0_weightsToTableaux_45 : decode cX0_weightsToTableaux 45 = .ok (.lstore 4, 2) := by decide +kernel
theorem dX0_weightsToTableaux_47 : decode cX0_weightsToTableaux 47 = .ok (.iinc 6 1, 3) := by decide +kernel
theorem dX0_weightsToTableaux_50 : decode cX0_weightsToTableaux 50 = .ok (.goto (-30), 3) := by decide +kernel
theorem dX0_weightsToTableaux_53 : decode cX0_weightsToTableaux 53 = .ok (.aload_n 2, 1) := by decide +kernel
theorem dX0_weightsToTableaux_54 : decode cX0_weightsToTableaux 54 = .ok (.iload_n 3, 1) := by decide +kernel
theorem dX0_weightsToTableaux_55 : decode cX0_weightsToTableaux 55 = .ok (.lload 4, 2) := by decide +kernel
theorem dX0_weightsToTableaux_57 : decode cX0_weightsToTableaux 57 = .ok (.lastore, 1) := by decide +kernel
theorem dX0_weightsToTableaux_58 : decode cX0_weightsToTableaux 58 = .ok (.iinc 3 1, 3) := by decide +kernel
theorem dX0_weightsToTableaux_61 : decode cX0_weightsToTableaux 61 = .ok (.goto (-59), 3) := by decide +kernel
theorem dX0_weightsToTableaux_64 : decode cX0_weightsToTableaux 64 = .ok (.return_, 1) := by decide +kernel
theorem dX0_completesToTableaux_0 : decode cX0_completesToTableaux 0 = .ok (.iconst 0, 1) := by decide +kernel
theorem dX0_completesToTableaux_1 : decode cX0_completesToTableaux 1 = .ok (.istore_n 3, 1) := by decide +kernel
theorem dX0_completesToTableaux_2 : decode cX0_completesToTableaux 2 = .ok (.iload_n 3, 1) := by decide +kernel
theorem dX0_completesToTableaux_3 : decode cX0_completesToTableaux 3 = .ok (.bipush 30, 2) := by decide +kernel
theorem dX0_completesToTableaux_5 : decode cX0_completesToTableaux 5 = .ok (.if_icmp .ge 57, 3) := by decide +kernel
theorem dX0_completesToTableaux_8 : decode cX0_completesToTableaux 8 = .ok (.lconst 0, 1) := by decide +kernel
theorem dX0_completesToTableaux_9 : decode cX0_completesToTableaux 9 = .ok (.lstore 4, 2) := by decide +kernel
theorem dX0_completesToTableaux_11 : decode cX0_completesToTableaux 11 = .ok (.iload_n 3, 1) := by decide +kernel
theorem dX0_completesToTableaux_12 : decode cX0_completesToTableaux 12 = .ok (.istore 6, 2) := by decide +kernel
theorem dX0_completesToTableaux_14 : decode cX0_completesToTableaux 14 = .ok (.iload 6, 2) := by decide +kernel
theorem dX0_completesToTableaux_16 : decode cX0_completesToTableaux 16 = .ok (.aload_n 0, 1) := by decide +kernel
theorem dX0_completesToTableaux_17 : decode cX0_completesToTableaux 17 = .ok (.iload_n 3, 1) := by decide +kernel
theorem dX0_completesToTableaux_18 : decode cX0_completesToTableaux 18 = .ok (.invokevirtual 70, 3) := by decide +kernel
theorem dX0_completesToTableaux_21 : decode cX0_completesToTableaux 21 = .ok (.if_icmp .ge 30, 3) := by decide +kernel
theorem dX0_completesToTableaux_24 : decode cX0_completesToTableaux 24 = .ok (.lload 4, 2) := by decide +kernel
theorem dX0_completesToTableaux_26 : decode cX0_completesToTableaux 26 = .ok (.aload_n 1, 1) := by decide +kernel
theorem dX0_completesToTableaux_27 : decode cX0_completesToTableaux 27 = .ok (.iload 6, 2) := by decide +kernel
theorem dX0_completesToTableaux_29 : decode cX0_completesToTableaux 29 = .ok (.laload, 1) := by decide +kernel
theorem dX0_completesToTableaux_30 : decode cX0_completesToTableaux 30 = .ok (.aload_n 0, 1) := by decide +kernel
theorem dX0_completesToTableaux_31 : decode cX0_completesToTableaux 31 = .ok (.getfield 18, 3) := by decide +kernel
theorem dX0_completesToTableaux_34 : decode cX0_completesToTableaux 34 = .ok (.iload_n 3, 1) := by decide +kernel
theorem dX0_completesToTableaux_35 : decode cX0_completesToTableaux 35 = .ok (.iload 6, 2) := by decide +kernel
theorem dX0_completesToTableaux_37 : decode cX0_completesToTableaux 37 = .ok (.invokevirtual 66, 3) := by decide +kernel
theorem dX0_completesToTableaux_40 : decode cX0_completesToTableaux 40 = .ok (.i2l, 1) := by decide +kernel
theorem dX0_completesToTableaux_41 : decode cX0_completesToTableaux 41 = .ok (.lmul, 1) := by decide +kernel
theorem dX0_completesToTableaux_42 : decode cX0_completesToTableaux 42 = .ok (.ladd, 1) := by decide +kernel
theorem dX0_completesToTableaux_43 : decode cX0_completesToTableaux 43 = .ok (.lstore 4, 2) := by decide +kernel
theorem dX0_completesToTableaux_45 : decode cX0_completesToTableaux 45 = .ok (.iinc 6 1, 3) := by decide +kernel
theorem dX0_completesToTableaux_48 : decode cX0_completesToTableaux 48 = .ok (.goto (-34), 3) := by decide +kernel
theorem dX0_completesToTableaux_51 : decode cX0_completesToTableaux 51 = .ok (.aload_n 2, 1) := by decide +kernel
theorem dX0_completesToTableaux_52 : decode cX0_completesToTableaux 52 = .ok (.iload_n 3, 1) := by decide +kernel
theorem dX0_completesToTableaux_53 : decode cX0_completesToTableaux 53 = .ok (.lload 4, 2) := by decide +kernel
theorem dX0_completesToTableaux_55 : decode cX0_completesToTableaux 55 = .ok (.lastore, 1) := by decide +kernel
theorem dX0_completesToTableaux_56 : decode cX0_completesToTableaux 56 = .ok (.iinc 3 1, 3) := by decide +kernel
theorem dX0_completesToTableaux_59 : decode cX0_completesToTableaux 59 = .ok (.goto (-57), 3) := by decide +kernel
theorem dX0_completesToTableaux_62 : decode cX0_completesToTableaux 62 = .ok (.return_, 1) := by decide +kernel
theorem dX0_tableauxToCompletes_0 : decode cX0_tableauxToCompletes 0 = .ok (.bipush 29, 2) := by decide +kernel
theorem dX0_tableauxToCompletes_2 : decode cX0_tableauxToCompletes 2 = .ok (.istore_n 3, 1) := by decide +kernel
theorem dX0_tableauxToCompletes_3 : decode cX0_tableauxToCompletes 3 = .ok (.iload_n 3, 1) := by decide +kernel
theorem dX0_tableauxToCompletes_4 : decode cX0_tableauxToCompletes 4 = .ok (.ifCond .lt 61, 3) := by decide +kernel
theorem dX0_tableauxToCompletes_7 : decode cX0_tableauxToCompletes 7 = .ok (.aload_n 1, 1) := by decide +kernel
theorem dX0_tableauxToCompletes_8 : decode cX0_tableauxToCompletes 8 = .ok (.iload_n 3, 1) := by decide +kernel
theorem dX0_tableauxToCompletes_9 : decode cX0_tableauxToCompletes 9 = .ok (.laload, 1) := by decide +kernel
theorem dX0_tableauxToCompletes_10 : decode cX0_tableauxToCompletes 10 = .ok (.lstore 4, 2) := by decide +kernel
theorem dX0_tableauxToCompletes_12 : decode cX0_tableauxToCompletes 12 = .ok (.iload_n 3, 1) := by decide +kernel
theorem dX0_tableauxToCompletes_13 : decode cX0_tableauxToCompletes 13 = .ok (.iconst 1, 1) := by decide +kernel
theorem dX0_tableauxToCompletes_14 : decode cX0_tableauxToCompletes 14 = .ok (.iadd, 1) := by decide +kernel
theorem dX0_tableauxToCompletes_15 : decode cX0_tableauxToCompletes 15 = .ok (.istore 6, 2) := by decide +kernel
theorem dX0_tableauxToCompletes_17 : decode cX0_tableauxToCompletes 17 = .ok (.iload 6, 2) := by decide +kernel
theorem dX0_tableauxToCompletes_19 : decode cX0_tableauxToCompletes 19 = .ok (.aload_n 0, 1) := by decide +kernel
theorem dX0_tableauxToCompletes_20 : decode cX0_tableauxToCompletes 20 = .ok (.iload_n 3, 1) := by decide +kernel
theorem dX0_tableauxToCompletes_21 : decode cX0_tableauxToCompletes 21 = .ok (.invokevirtual 70, 3) := by decide +kernel
theorem dX0_tableauxToCompletes_24 : decode cX0_tableauxToCompletes 24 = .ok (.if_icmp .ge 30, 3) := by decide +kernel
theorem dX0_tableauxToCompletes_27 : decode cX0_tableauxToCompletes 27 = .ok (.lload 4, 2) := by decide +kernel
theorem dX0_tableauxToCompletes_29 : decode cX0_tableauxToCompletes 29 = .ok (.aload_n 2, 1) := by decide +kernel
theorem dX0_tableauxToCompletes_30 : decode cX0_tableauxToCompletes 30 = .ok (.iload 6, 2) := by decide +kernel
theorem dX0_tableauxToCompletes_32 : decode cX0_tableauxToCompletes 32 = .ok (.laload, 1) := by decide +kernel
theorem dX0_tableauxToCompletes_33 : decode cX0_tableauxToCompletes 33 = .ok (.aload_n 0, 1) := by decide +kernel
theorem dX0_tableauxToCompletes_34 : decode cX0_tableauxToCompletes 34 = .ok (.getfield 18, 3) := by decide +kernel
theorem dX0_tableauxToCompletes_37 : decode cX0_tableauxToCompletes 37 = .ok (.iload_n 3, 1) := by decide +kernel
theorem dX0_tableauxToCompletes_38 : decode cX0_tableauxToCompletes 38 = .ok (.iload 6, 2) := by decide +kernel
theorem dX0_tableauxToCompletes_40 : decode cX0_tableauxToCompletes 40 = .ok (.invokevirtual 66, 3) := by decide +kernel
theorem dX0_tableauxToCompletes_43 : decode cX0_tableauxToCompletes 43 = .ok (.i2l, 1) := by decide +kernel
theorem dX0_tableauxToCompletes_44 : decode cX0_tableauxToCompletes 44 = .ok (.lmul, 1) := by decide +kernel
theorem dX0_tableauxToCompletes_45 : decode cX0_tableauxToCompletes 45 = .ok (.lsub, 1) := by decide +kernel
theorem dX0_tableauxToCompletes_46 : decode cX0_tableauxToCompletes 46 = .ok (.lstore 4, 2) := by decide +kernel
theorem dX0_tableauxToCompletes_48 : decode cX0_tableauxToCompletes 48 = .ok (.iinc 6 1, 3) := by decide +kernel
theorem dX0_tableauxToCompletes_51 : decode cX0_tableauxToCompletes 51 = .ok (.goto (-34), 3) := by decide +kernel
theorem dX0_tableauxToCompletes_54 : decode cX0_tableauxToCompletes 54 = .ok (.aload_n 2, 1) := by decide +kernel
theorem dX0_tableauxToCompletes_55 : decode cX0_tableauxToCompletes 55 = .ok (.iload_n 3, 1) := by decide +kernel
theorem dX0_tableauxToCompletes_56 : decode cX0_tableauxToCompletes 56 = .ok (.lload 4, 2) := by decide +kernel
theorem dX0_tableauxToCompletes_58 : decode cX0_tableauxToCompletes 58 = .ok (.lastore, 1) := by decide +kernel
theorem dX0_tableauxToCompletes_59 : decode cX0_tableauxToCompletes 59 = .ok (.iinc 3 (-1), 3) := by decide +kernel
theorem dX0_tableauxToCompletes_62 : decode cX0_tableauxToCompletes 62 = .ok (.goto (-59), 3) := by decide +kernel
theorem dX0_tableauxToCompletes_65 : decode cX0_tableauxToCompletes 65 = .ok (.return_, 1) := by decide +kernel
theorem dX0_powersToTableaux_0 : decode cX0_powersToTableaux 0 = .ok (.iconst 0, 1) := by decide +kernel
theorem dX0_powersToTableaux_1 : decode cX0_powersToTableaux 1 = .ok (.istore_n 3, 1) := by decide +kernel
theorem dX0_powersToTableaux_2 : decode cX0_powersToTableaux 2 = .ok (.iload_n 3, 1) := by decide +kernel
theorem dX0_powersToTableaux_3 : decode cX0_powersToTableaux 3 = .ok (.bipush 30, 2) := by decide +kernel
theorem dX0_powersToTableaux_5 : decode cX0_powersToTableaux 5 = .ok (.if_icmp .ge 61, 3) := by decide +kernel
theorem dX0_powersToTableaux_8 : decode cX0_powersToTableaux 8 = .ok (.lconst 0, 1) := by decide +kernel
theorem dX0_powersToTableaux_9 : decode cX0_powersToTableaux 9 = .ok (.lstore 4, 2) := by decide +kernel
theorem dX0_powersToTableaux_11 : decode cX0_powersToTableaux 11 = .ok (.aload_n 0, 1) := by decide +kernel
theorem dX0_powersToTableaux_12 : decode cX0_powersToTableaux 12 = .ok (.iload_n 3, 1) := by decide +kernel
theorem dX0_powersToTableaux_13 : decode cX0_powersToTableaux 13 = .ok (.invokevirtual 63, 3) := by decide +kernel
theorem dX0_powersToTableaux_16 : decode cX0_powersToTableaux 16 = .ok (.istore 6, 2) := by decide +kernel
theorem dX0_powersToTableaux_18 : decode cX0_powersToTableaux 18 = .ok (.iload 6, 2) := by decide +kernel
theorem dX0_powersToTableaux_20 : decode cX0_powersToTableaux 20 = .ok (.aload_n 0, 1) := by decide +kernel
theorem dX0_powersToTableaux_21 : decode cX0_powersToTableaux 21 = .ok (.iload_n 3, 1) := by decide +kernel
theorem dX0_powersToTableaux_22 : decode cX0_powersToTableaux 22 = .ok (.invokevirtual 70, 3) := by decide +kernel
theorem dX0_powersToTableaux_25 : decode cX0_powersToTableaux 25 = .ok (.if_icmp .ge 30, 3) := by decide +kernel
theorem dX0_powersToTableaux_28 : decode cX0_powersToTableaux 28 = .ok (.lload 4, 2) := by decide +kernel
theorem dX0_powersToTableaux_30 : decode cX0_powersToTableaux 30 = .ok (.aload_n 1, 1) := by decide +kernel
theorem dX0_powersToTableaux_31 : decode cX0_powersToTableaux 31 = .ok (.iload 6, 2) := by decide +kernel
theorem dX0_powersToTableaux_33 : decode cX0_powersToTableaux 33 = .ok (.laload, 1) := by decide +kernel
theorem dX0_powersToTableaux_34 : decode cX0_powersToTableaux 34 = .ok (.aload_n 0, 1) := by decide +kernel
theorem dX0_powersToTableaux_35 : decode cX0_powersToTableaux 35 = .ok (.getfield 18, 3) := by decide +kernel
theorem dX0_powersToTableaux_38 : decode cX0_powersToTableaux 38 = .ok (.iload_n 3, 1) := by decide +kernel
theorem dX0_powersToTableaux_39 : decode cX0_powersToTableaux 39 = .ok (.iload 6, 2) := by decide +kernel
theorem dX0_powersToTableaux_41 : decode cX0_powersToTableaux 41 = .ok (.invokevirtual 73, 3) := by decide +kernel
theorem dX0_powersToTableaux_44 : decode cX0_powersToTableaux 44 = .ok (.i2l, 1) := by decide +kernel
theorem dX0_powersToTableaux_45 : decode cX0_powersToTableaux 45 = .ok (.lmul, 1) := by decide +kernel
theorem dX0_powersToTableaux_46 : decode cX0_powersToTableaux 46 = .ok (.ladd, 1) := by decide +kernel
theorem dX0_powersToTableaux_47 : decode cX0_powersToTableaux 47 = .ok (.lstore 4, 2) := by decide +kernel
theorem dX0_powersToTableaux_49 : decode cX0_powersToTableaux 49 = .ok (.iinc 6 1, 3) := by decide +kernel
theorem dX0_powersToTableaux_52 : decode cX0_powersToTableaux 52 = .ok (.goto (-34), 3) := by decide +kernel
theorem dX0_powersToTableaux_55 : decode cX0_powersToTableaux 55 = .ok (.aload_n 2, 1) := by decide +kernel
theorem dX0_powersToTableaux_56 : decode cX0_powersToTableaux 56 = .ok (.iload_n 3, 1) := by decide +kernel
theorem dX0_powersToTableaux_57 : decode cX0_powersToTableaux 57 = .ok (.lload 4, 2) := by decide +kernel
theorem dX0_powersToTableaux_59 : decode cX0_powersToTableaux 59 = .ok (.lastore, 1) := by decide +kernel
theorem dX0_powersToTableaux_60 : decode cX0_powersToTableaux 60 = .ok (.iinc 3 1, 3) := by decide +kernel
theorem dX0_powersToTableaux_63 : decode cX0_powersToTableaux 63 = .ok (.goto (-61), 3) := by decide +kernel
theorem dX0_powersToTableaux_66 : decode cX0_powersToTableaux 66 = .ok (.return_, 1) := by decide +kernel
theorem dX0_tableauxToPowers_0 : decode cX0_tableauxToPowers 0 = .ok (.iconst 0, 1) := by decide +kernel
theorem dX0_tableauxToPowers_1 : decode cX0_tableauxToPowers 1 = .ok (.istore_n 3, 1) := by decide +kernel
theorem dX0_tableauxToPowers_2 : decode cX0_tableauxToPowers 2 = .ok (.iload_n 3, 1) := by decide +kernel
theorem dX0_tableauxToPowers_3 : decode cX0_tableauxToPowers 3 = .ok (.bipush 30, 2) := by decide +kernel
theorem dX0_tableauxToPowers_5 : decode cX0_tableauxToPowers 5 = .ok (.if_icmp .ge 89, 3) := by decide +kernel
theorem dX0_tableauxToPowers_8 : decode cX0_tableauxToPowers 8 = .ok (.lconst 0, 1) := by decide +kernel
theorem dX0_tableauxToPowers_9 : decode cX0_tableauxToPowers 9 = .ok (.lstore 4, 2) := by decide +kernel
theorem dX0_tableauxToPowers_11 : decode cX0_tableauxToPowers 11 = .ok (.aload_n 0, 1) := by decide +kernel
theorem dX0_tableauxToPowers_12 : decode cX0_tableauxToPowers 12 = .ok (.iload_n 3, 1) := by decide +kernel
theorem dX0_tableauxToPowers_13 : decode cX0_tableauxToPowers 13 = .ok (.invokevirtual 63, 3) := by decide +kernel
theorem dX0_tableauxToPowers_16 : decode cX0_tableauxToPowers 16 = .ok (.istore 6, 2) := by decide +kernel
theorem dX0_tableauxToPowers_18 : decode cX0_tableauxToPowers 18 = .ok (.iload 6, 2) := by decide +kernel
theorem dX0_tableauxToPowers_20 : decode cX0_tableauxToPowers 20 = .ok (.aload_n 0, 1) := by decide +kernel
theorem dX0_tableauxToPowers_21 : decode cX0_tableauxToPowers 21 = .ok (.iload_n 3, 1) := by decide +kernel
theorem dX0_tableauxToPowers_22 : decode cX0_tableauxToPowers 22 = .ok (.invokevirtual 70, 3) := by decide +kernel
theorem dX0_tableauxToPowers_25 : decode cX0_tableauxToPowers 25 = .ok (.if_icmp .ge 30, 3) := by decide +kernel
theorem dX0_tableauxToPowers_28 : decode cX0_tableauxToPowers 28 = .ok (.lload 4, 2) := by decide +kernel
theorem dX0_tableauxToPowers_30 : decode cX0_tableauxToPowers 30 = .ok (.aload_n 1, 1) := by decide +kernel
theorem dX0_tableauxToPowers_31 : decode cX0_tableauxToPowers 31 = .ok (.iload 6, 2) := by decide +kernel
theorem dX0_tableauxToPowers_33 : decode cX0_tableauxToPowers 33 = .ok (.laload, 1) := by decide +kernel
theorem dX0_tableauxToPowers_34 : decode cX0_tableauxToPowers 34 = .ok (.aload_n 0, 1) := by decide +kernel
theorem dX0_tableauxToPowers_35 : decode cX0_tableauxToPowers 35 = .ok (.getfield 18, 3) := by decide +kernel
theorem dX0_tableauxToPowers_38 : decode cX0_tableauxToPowers 38 = .ok (.iload 6, 2) := by decide +kernel
theorem dX0_tableauxToPowers_40 : decode cX0_tableauxToPowers 40 = .ok (.iload_n 3, 1) := by decide +kernel
theorem dX0_tableauxToPowers_41 : decode cX0_tableauxToPowers 41 = .ok (.invokevirtual 73, 3) := by decide +kernel
theorem dX0_tableauxToPowers_44 : decode cX0_tableauxToPowers 44 = .ok (.i2l, 1) := by decide +kernel
theorem dX0_tableauxToPowers_45 : decode cX0_tableauxToPowers 45 = .ok (.lmul, 1) := by decide +kernel
theorem dX0_tableauxToPowers_46 : decode cX0_tableauxToPowers 46 = .ok (.ladd, 1) := by decide +kernel
theorem dX0_tableauxToPowers_47 : decode cX0_tableauxToPowers 47 = .ok (.lstore 4, 2) := by decide +kernel
theorem dX0_tableauxToPowers_49 : decode cX0_tableauxToPowers 49 = .ok (.iinc 6 1, 3) := by decide +kernel
theorem dX0_tableauxToPowers_52 : decode cX0_tableauxToPowers 52 = .ok (.goto (-34), 3) := by decide +kernel
theorem dX0_tableauxToPowers_55 : decode cX0_tableauxToPowers 55 = .ok (.aload_n 0, 1) := by decide +kernel
theorem dX0_tableauxToPowers_56 : decode cX0_tableauxToPowers 56 = .ok (.getfield 18, 3) := by decide +kernel
theorem dX0_tableauxToPowers_59 : decode cX0_tableauxToPowers 59 = .ok (.getfield 76, 3) := by decide +kernel
theorem dX0_tableauxToPowers_62 : decode cX0_tableauxToPowers 62 = .ok (.iload_n 3, 1) := by decide +kernel
theorem dX0_tableauxToPowers_63 : decode cX0_tableauxToPowers 63 = .ok (.iaload, 1) := by decide +kernel
theorem dX0_tableauxToPowers_64 : decode cX0_tableauxToPowers 64 = .ok (.istore 6, 2) := by decide +kernel
theorem dX0_tableauxToPowers_66 : decode cX0_tableauxToPowers 66 = .ok (.aload_n 2, 1) := by decide +kernel
theorem dX0_tableauxToPowers_67 : decode cX0_tableauxToPowers 67 = .ok (.iload_n 3, 1) := by decide +kernel
theorem dX0_tableauxToPowers_68 : decode cX0_tableauxToPowers 68 = .ok (.iload 6, 2) := by decide +kernel
theorem dX0_tableauxToPowers_70 : decode cX0_tableauxToPowers 70 = .ok (.ifCond .le 16, 3) := by decide +kernel
theorem dX0_tableauxToPowers_73 : decode cX0_tableauxToPowers 73 = .ok (.lload 4, 2) := by decide +kernel
theorem dX0_tableauxToPowers_75 : decode cX0_tableauxToPowers 75 = .ok (.sipush 720, 3) := by decide +kernel
theorem dX0_tableauxToPowers_78 : decode cX0_tableauxToPowers 78 = .ok (.iload 6, 2) := by decide +kernel
theorem dX0_tableauxToPowers_80 : decode cX0_tableauxToPowers 80 = .ok (.idiv, 1) := by decide +kernel
theorem dX0_tableauxToPowers_81 : decode cX0_tableauxToPowers 81 = .ok (.i2l, 1) := by decide +kernel
theorem dX0_tableauxToPowers_82 : decode cX0_tableauxToPowers 82 = .ok (.lmul, 1) := by decide +kernel
theorem dX0_tableauxToPowers_83 : decode cX0_tableauxToPowers 83 = .ok (.goto 4, 3) := by decide +kernel
theorem dX0_tableauxToPowers_86 : decode cX0_tableauxToPowers 86 = .ok (.lconst 0, 1) := by decide +kernel
theorem dX0_tableauxToPowers_87 : decode cX0_tableauxToPowers 87 = .ok (.lastore, 1) := by decide +kernel
theorem dX0_tableauxToPowers_88 : decode cX0_tableauxToPowers 88 = .ok (.iinc 3 1, 3) := by decide +kernel
theorem dX0_tableauxToPowers_91 : decode cX0_tableauxToPowers 91 = .ok (.goto (-89), 3) := by decide +kernel
theorem dX0_tableauxToPowers_94 : decode cX0_tableauxToPowers 94 = .ok (.return_, 1) := by decide +kernel
theorem dX0_conjugate_0 : decode cX0_conjugate 0 = .ok (.iconst 0, 1) := by decide +kernel
theorem dX0_conjugate_1 : decode cX0_conjugate 1 = .ok (.istore_n 3, 1) := by decide +kernel
theorem dX0_conjugate_2 : decode cX0_conjugate 2 = .ok (.iload_n 3, 1) := by decide +kernel
theorem dX0_conjugate_3 : decode cX0_conjugate 3 = .ok (.bipush 30, 2) := by decide +kernel
theorem dX0_conjugate_5 : decode cX0_conjugate 5 = .ok (.if_icmp .ge 35, 3) := by decide +kernel
theorem dX0_conjugate_8 : decode cX0_conjugate 8 = .ok (.aload_n 0, 1) := by decide +kernel
theorem dX0_conjugate_9 : decode cX0_conjugate 9 = .ok (.getfield 18, 3) := by decide +kernel
theorem dX0_conjugate_12 : decode cX0_conjugate 12 = .ok (.getfield 79, 3) := by decide +kernel
theorem dX0_conjugate_15 : decode cX0_conjugate 15 = .ok (.iload_n 3, 1) := by decide +kernel
theorem dX0_conjugate_16 : decode cX0_conjugate 16 = .ok (.iaload, 1) := by decide +kernel
theorem dX0_conjugate_17 : decode cX0_conjugate 17 = .ok (.istore 4, 2) := by decide +kernel
theorem dX0_conjugate_19 : decode cX0_conjugate 19 = .ok (.iload 4, 2) := by decide +kernel
theorem dX0_conjugate_21 : decode cX0_conjugate 21 = .ok (.invokestatic 82, 3) := by decide +kernel
theorem dX0_conjugate_24 : decode cX0_conjugate 24 = .ok (.ifCond .eq 10, 3) := by decide +kernel
theorem dX0_conjugate_27 : decode cX0_conjugate 27 = .ok (.aload_n 2, 1) := by decide +kernel
theorem dX0_conjugate_28 : decode cX0_conjugate 28 = .ok (.iload 4, 2) := by decide +kernel
theorem dX0_conjugate_30 : decode cX0_conjugate 30 = .ok (.aload_n 1, 1) := by decide +kernel
theorem dX0_conjugate_31 : decode cX0_conjugate 31 = .ok (.iload_n 3, 1) := by decide +kernel
theorem dX0_conjugate_32 : decode cX0_conjugate 32 = .ok (.laload, 1) := by decide +kernel
theorem dX0_conjugate_33 : decode cX0_conjugate 33 = .ok (.lastore, 1) := by decide +kernel
theorem dX0_conjugate_34 : decode cX0_conjugate 34 = .ok (.iinc 3 1, 3) := by decide +kernel
theorem dX0_conjugate_37 : decode cX0_conjugate 37 = .ok (.goto (-35), 3) := by decide +kernel
theorem dX0_conjugate_40 : decode cX0_conjugate 40 = .ok (.return_, 1) := by decide +kernel
theorem dX1_init_0 : decode cX1_init 0 = .ok (.aload_n 0, 1) := by decide +kernel
theorem dX1_init_1 : decode cX1_init 1 = .ok (.invokespecial 3, 3) := by decide +kernel
theorem dX1_init_4 : decode cX1_init 4 = .ok (.aload_n 0, 1) := by decide +kernel
theorem dX1_init_5 : decode cX1_init 5 = .ok (.bipush 30, 2) := by decide +kernel
theorem dX1_init_7 : decode cX1_init 7 = .ok (.newarray .int, 2) := by decide +kernel
theorem dX1_init_9 : decode cX1_init 9 = .ok (.putfield 9, 3) := by decide +kernel
theorem dX1_init_12 : decode cX1_init 12 = .ok (.aload_n 0, 1) := by decide +kernel
theorem dX1_init_13 : decode cX1_init 13 = .ok (.bipush 30, 2) := by decide +kernel
theorem dX1_init_15 : decode cX1_init 15 = .ok (.newarray .int, 2) := by decide +kernel
theorem dX1_init_17 : decode cX1_init 17 = .ok (.putfield 15, 3) := by decide +kernel
theorem dX1_init_20 : decode cX1_init 20 = .ok (.aload_n 0, 1) := by decide +kernel
theorem dX1_init_21 : decode cX1_init 21 = .ok (.bipush 30, 2) := by decide +kernel
theorem dX1_init_23 : decode cX1_init 23 = .ok (.newarray .int, 2) := by decide +kernel
theorem dX1_init_25 : decode cX1_init 25 = .ok (.putfield 18, 3) := by decide +kernel
theorem dX1_init_28 : decode cX1_init 28 = .ok (.aload_n 0, 1) := by decide +kernel
theorem dX1_init_29 : decode cX1_init 29 = .ok (.bipush 30, 2) := by decide +kernel
theorem dX1_init_31 : decode cX1_init 31 = .ok (.newarray .int, 2) := by decide +kernel
theorem dX1_init_33 : decode cX1_init 33 = .ok (.putfield 21, 3) := by decide +kernel
theorem dX1_init_36 : decode cX1_init 36 = .ok (.aload_n 0, 1) := by decide +kernel
theorem dX1_init_37 : decode cX1_init 37 = .ok (.bipush 30, 2) := by decide +kernel
theorem dX1_init_39 : decode cX1_init 39 = .ok (.newarray .int, 2) := by decide +kernel
theorem dX1_init_41 : decode cX1_init 41 = .ok (.putfield 24, 3) := by decide +kernel
theorem dX1_init_44 : decode cX1_init 44 = .ok (.aload_n 0, 1) := by decide +kernel
theorem dX1_init_45 : decode cX1_init 45 = .ok (.sipush 900, 3) := by decide +kernel
theorem dX1_init_48 : decode cX1_init 48 = .ok (.newarray .int, 2) := by decide +kernel
theorem dX1_init_50 : decode cX1_init 50 = .ok (.putfield 27, 3) := by decide +kernel
theorem dX1_init_53 : decode cX1_init 53 = .ok (.aload_n 0, 1) := by decide +kernel
theorem dX1_init_54 : decode cX1_init 54 = .ok (.sipush 900, 3) := by decide +kernel
theorem dX1_init_57 : decode cX1_init 57 = .ok (.newarray .int, 2) := by decide +kernel
theorem dX1_init_59 : decode cX1_init 59 = .ok (.putfield 30, 3) := by decide +kernel
theorem dX1_init_62 : decode cX1_init 62 = .ok (.aload_n 0, 1) := by decide +kernel
theorem dX1_init_63 : decode cX1_init 63 = .ok (.sipush 900, 3) := by decide +kernel
theorem dX1_init_66 : decode cX1_init 66 = .ok (.newarray .int, 2) := by decide +kernel
theorem dX1_init_68 : decode cX1_init 68 = .ok (.putfield 33, 3) := by decide +kernel
theorem dX1_init_71 : decode cX1_init 71 = .ok (.iconst 0, 1) := by decide +kernel
theorem dX1_init_72 : decode cX1_init 72 = .ok (.istore_n 1, 1) := by decide +kernel
theorem dX1_init_73 : decode cX1_init 73 = .ok (.iload_n 1, 1) := by decide +kernel
theorem dX1_init_74 : decode cX1_init 74 = .ok (.bipush 30, 2) := by decide +kernel
theorem dX1_init_76 : decode cX1_init 76 = .ok (.if_icmp .ge 14, 3) := by decide +kernel
theorem dX1_init_79 : decode cX1_init 79 = .ok (.aload_n 0, 1) := by decide +kernel
theorem dX1_init_80 : decode cX1_init 80 = .ok (.iload_n 1, 1) := by decide +kernel
theorem dX1_init_81 : decode cX1_init 81 = .ok (.invokevirtual 36, 3) := by decide +kernel
theorem dX1_init_84 : decode cX1_init 84 = .ok (.iinc 1 1, 3) := by decide +kernel
theorem dX1_init_87 : decode cX1_init 87 = .ok (.goto (-14), 3) := by decide +kernel
theorem dX1_init_90 : decode cX1_init 90 = .ok (.iconst 0, 1) := by decide +kernel
theorem dX1_init_91 : decode cX1_init 91 = .ok (.istore_n 1, 1) := by decide +kernel
theorem dX1_init_92 : decode cX1_init 92 = .ok (.iload_n 1, 1) := by decide +kernel
theorem dX1_init_93 : decode cX1_init 93 = .ok (.bipush 30, 2) := by decide +kernel
theorem dX1_init_95 : decode cX1_init 95 = .ok (.if_icmp .ge 75, 3) := by decide +kernel
theorem dX1_init_98 : decode cX1_init 98 = .ok (.aload_n 0, 1) := by decide +kernel
theorem dX1_init_99 : decode cX1_init 99 = .ok (.getfield 21, 3) := by decide +kernel
theorem dX1_init_102 : decode cX1_init 102 = .ok (.iload_n 1, 1) := by decide +kernel
theorem dX1_init_103 : decode cX1_init 103 = .ok (.aload_n 0, 1) := by decide +kernel
theorem dX1_init_104 : decode cX1_init 104 = .ok (.iload_n 1, 1) := by decide +kernel
theorem dX1_init_105 : decode cX1_init 105 = .ok (.invokevirtual 40, 3) := by decide +kernel
theorem dX1_init_108 : decode cX1_init 108 = .ok (.iastore, 1) := by decide +kernel
theorem dX1_init_109 : decode cX1_init 109 = .ok (.iconst 0, 1) := by decide +kernel
theorem dX1_init_110 : decode cX1_init 110 = .ok (.istore_n 2, 1) := by decide +kernel
theorem dX1_init_111 : decode cX1_init 111 = .ok (.iload_n 2, 1) := by decide +kernel
theorem dX1_init_112 : decode cX1_init 112 = .ok (.bipush 30, 2) := by decide +kernel
theorem dX1_init_114 : decode cX1_init 114 = .ok (.if_icmp .ge 50, 3) := by decide +kernel
theorem dX1_init_117 : decode cX1_init 117 = .ok (.aload_n 0, 1) := by decide +kernel
theorem dX1_init_118 : decode cX1_init 118 = .ok (.getfield 27, 3) := by decide +kernel
theorem dX1_init_121 : decode cX1_init 121 = .ok (.iload_n 1, 1) := by decide +kernel
theorem dX1_init_122 : decode cX1_init 122 = .ok (.bipush 30, 2) := by decide +kernel
theorem dX1_init_124 : decode cX1_init 124 = .ok (.imul, 1) := by decide +kernel
theorem dX1_init_125 : decode cX1_init 125 = .ok (.iload_n 2, 1) := by decide +kernel
theorem dX1_init_126 : decode cX1_init 126 = .ok (.iadd, 1) := by decide +kernel
theorem dX1_init_127 : decode cX1_init 127 = .ok (.aload_n 0, 1) := by decide +kernel
theorem dX1_init_128 : decode cX1_init 128 = .ok (.aload_n 0, 1) := by decide +kernel
theorem dX1_init_129 : decode cX1_init 129 = .ok (.getfield 18, 3) := by decide +kernel
theorem dX1_init_132 : decode cX1_init 132 = .ok (.iload_n 1, 1) := by decide +kernel
theorem dX1_init_133 : decode cX1_init 133 = .ok (.iaload, 1) := by decide +kernel
theorem dX1_init_134 : decode cX1_init 134 = .ok (.aload_n 0, 1) := by decide +kernel
theorem dX1_init_135 : decode cX1_init 135 = .ok (.getfield 18, 3) := by decide +kernel
theorem dX1_init_138 : decode cX1_init 138 = .ok (.iload_n 2, 1) := by decide +kernel
theorem dX1_init_139 : decode cX1_init 139 = .ok (.iaload, 1) := by decide +kernel
theorem dX1_init_140 : decode cX1_init 140 = .ok (.iadd, 1) := by decide +kernel
theorem dX1_init_141 : decode cX1_init 141 = .ok (.aload_n 0, 1) := by decide +kernel
theorem dX1_init_142 : decode cX1_init 142 = .ok (.getfield 9, 3) := by decide +kernel
theorem dX1_init_145 : decode cX1_init 145 = .ok (.iload_n 1, 1) := by decide +kernel
theorem dX1_init_146 : decode cX1_init 146 = .ok (.iaload, 1) := by decide +kernel
theorem dX1_init_147 : decode cX1_init 147 = .ok (.aload_n 0, 1) := by decide +kernel
theorem dX1_init_148 : decode cX1_init 148 = .ok (.getfield 9, 3) := by decide +kernel
theorem dX1_init_151 : decode cX1_init 151 = .ok (.iload_n 2, 1) := by decide +kernel
theorem dX1_init_152 : decode cX1_init 152 = .ok (.iaload, 1) := by decide +kernel
theorem dX1_init_153 : decode cX1_init 153 = .ok (.iadd, 1) := by decide +kernel
theorem dX1_init_154 : decode cX1_init 154 = .ok (.invokevirtual 44, 3) := by decide +kernel
theorem dX1_init_157 : decode cX1_init 157 = .ok (.iastore, 1) := by decide +kernel
theorem dX1_init_158 : decode cX1_init 158 = .ok (.iinc 2 1, 3) := by decide +kernel
theorem dX1_init_161 : decode cX1_init 161 = .ok (.goto (-50), 3) := by decide +kernel
theorem dX1_init_164 : decode cX1_init 164 = .ok (.iinc 1 1, 3) := by decide +kernel
theorem dX1_init_167 : decode cX1_init 167 = .ok (.goto (-75), 3) := by decide +kernel
theorem dX1_init_170 : decode cX1_init 170 = .ok (.aload_n 0, 1) := by decide +kernel
theorem dX1_init_171 : decode cX1_init 171 = .ok (.getfield 30, 3) := by decide +kernel
theorem dX1_init_174 : decode cX1_init 174 = .ok (.iconst 0, 1) := by decide +kernel
theorem dX1_init_175 : decode cX1_init 175 = .ok (.iconst 1, 1) := by decide +kernel
theorem dX1_init_176 : decode cX1_init 176 = .ok (.iastore, 1) := by decide +kernel
theorem dX1_init_177 : decode cX1_init 177 = .ok (.aload_n 0, 1) := by decide +kernel
theorem dX1_init_178 : decode cX1_init 178 = .ok (.getfield 33, 3) := by decide +kernel
theorem dX1_init_181 : decode cX1_init 181 = .ok (.iconst 0, 1) := by decide +kernel
theorem dX1_init_182 : decode cX1_init 182 = .ok (.iconst 1, 1) := by decide +kernel
theorem dX1_init_183 : decode cX1_init 183 = .ok (.iastore, 1) := by decide +kernel
theorem dX1_init_184 : decode cX1_init 184 = .ok (.iconst 1, 1) := by decide +kernel
theorem dX1_init_185 : decode cX1_init 185 = .ok (.istore_n 1, 1) := by decide +kernel
theorem dX1_init_186 : decode cX1_init 186 = .ok (.iload_n 1, 1) := by decide +kernel
theorem dX1_init_187 : decode cX1_init 187 = .ok (.bipush 30, 2) := by decide +kernel
theorem dX1_init_189 : decode cX1_init 189 = .ok (.if_icmp .ge 14, 3) := by decide +kernel
theorem dX1_init_192 : decode cX1_init 192 = .ok (.aload_n 0, 1) := by decide +kernel
theorem dX1_init_193 : decode cX1_init 193 = .ok (.iload_n 1, 1) := by decide +kernel
theorem dX1_init_194 : decode cX1_init 194 = .ok (.invokevirtual 48, 3) := by decide +kernel
theorem dX1_init_197 : decode cX1_init 197 = .ok (.iinc 1 1, 3) := by decide +kernel
theorem dX1_init_200 : decode cX1_init 200 = .ok (.goto (-14), 3) := by decide +kernel
theorem dX1_init_203 : decode cX1_init 203 = .ok (.return_, 1) := by decide +kernel
theorem dX1_startOf_0 : decode cX1_startOf 0 = .ok (.iload_n 0, 1) := by decide +kernel
theorem dX1_startOf_1 : decode cX1_startOf 1 = .ok (.ifCond .lt 17, 3) := by decide +kernel
theorem dX1_startOf_4 : decode cX1_startOf 4 = .ok (.iload_n 0, 1) := by decide +kernel
theorem dX1_startOf_5 : decode cX1_startOf 5 = .ok (.bipush 6, 2) := by decide +kernel
theorem dX1_startOf_7 : decode cX1_startOf 7 = .ok (.if_icmp .gt 11, 3) := by decide +kernel
theorem dX1_startOf_10 : decode cX1_startOf 10 = .ok (.getstatic 51, 3) := by decide +kernel
theorem dX1_startOf_13 : decode cX1_startOf 13 = .ok (.iload_n 0, 1) := by decide +kernel
theorem dX1_startOf_14 : decode cX1_startOf 14 = .ok (.iaload, 1) := by decide +kernel
theorem dX1_startOf_15 : decode cX1_startOf 15 = .ok (.goto 4, 3) := by decide +kernel
theorem dX1_startOf_18 : decode cX1_startOf 18 = .ok (.iconst 0, 1) := by decide +kernel
theorem dX1_startOf_19 : decode cX1_startOf 19 = .ok (.ireturn, 1) := by decide +kernel
theorem dX1_endOf_0 : decode cX1_endOf 0 = .ok (.iload_n 0, 1) := by decide +kernel
theorem dX1_endOf_1 : decode cX1_endOf 1 = .ok (.ifCond .lt 19, 3) := by decide +kernel
theorem dX1_endOf_4 : decode cX1_endOf 4 = .ok (.iload_n 0, 1) := by decide +kernel
theorem dX1_endOf_5 : decode cX1_endOf 5 = .ok (.bipush 6, 2) := by decide +kernel
theorem dX1_endOf_7 : decode cX1_endOf 7 = .ok (.if_icmp .gt 13, 3) := by decide +kernel
theorem dX1_endOf_10 : decode cX1_endOf 10 = .ok (.getstatic 51, 3) := by decide +kernel
theorem dX1_endOf_13 : decode cX1_endOf 13 = .ok (.iload_n 0, 1) := by decide +kernel
theorem dX1_endOf_14 : decode cX1_endOf 14 = .ok (.iconst 1, 1) := by decide +kernel
theorem dX1_endOf_15 : decode cX1_endOf 15 = .ok (.iadd, 1) := by decide +kernel
theorem dX1_endOf_16 : decode cX1_endOf 16 = .ok (.iaload, 1) := by decide +kernel
theorem dX1_endOf_17 : decode cX1_endOf 17 = .ok (.goto 4, 3) := by decide +kernel
theorem dX1_endOf_20 : decode cX1_endOf 20 = .ok (.iconst 0, 1) := by decide +kernel
theorem dX1_endOf_21 : decode cX1_endOf 21 = .ok (.ireturn, 1) := by decide +kernel
theorem dX1_isPlace_0 : decode cX1_isPlace 0 = .ok (.iload_n 0, 1) := by decide +kernel
theorem dX1_isPlace_1 : decode cX1_isPlace 1 = .ok (.ifCond .lt 13, 3) := by decide +kernel
theorem dX1_isPlace_4 : decode cX1_isPlace 4 = .ok (.iload_n 0, 1) := by decide +kernel
theorem dX1_isPlace_5 : decode cX1_isPlace 5 = .ok (.bipush 6, 2) := by decide +kernel
theorem dX1_isPlace_7 : decode cX1_isPlace 7 = .ok (.if_icmp .ge 7, 3) := by decide +kernel
theorem dX1_isPlace_10 : decode cX1_isPlace 10 = .ok (.iconst 1, 1) := by decide +kernel
theorem dX1_isPlace_11 : decode cX1_isPlace 11 = .ok (.goto 4, 3) := by decide +kernel
theorem dX1_isPlace_14 : decode cX1_isPlace 14 = .ok (.iconst 0, 1) := by decide +kernel
theorem dX1_isPlace_15 : decode cX1_isPlace 15 = .ok (.ireturn, 1) := by decide +kernel
theorem dX1_partAt_0 : decode cX1_partAt 0 = .ok (.iload_n 1, 1) := by decide +kernel
theorem dX1_partAt_1 : decode cX1_partAt 1 = .ok (.invokestatic 54, 3) := by decide +kernel
theorem dX1_partAt_4 : decode cX1_partAt 4 = .ok (.ifCond .eq 23, 3) := by decide +kernel
theorem dX1_partAt_7 : decode cX1_partAt 7 = .ok (.iload_n 2, 1) := by decide +kernel
theorem dX1_partAt_8 : decode cX1_partAt 8 = .ok (.invokestatic 58, 3) := by decide +kernel
theorem dX1_partAt_11 : decode cX1_partAt 11 = .ok (.ifCond .eq 16, 3) := by decide +kernel
theorem dX1_partAt_14 : decode cX1_partAt 14 = .ok (.getstatic 61, 3) := by decide +kernel
theorem dX1_partAt_17 : decode cX1_partAt 17 = .ok (.iload_n 1, 1) := by decide +kernel
theorem dX1_partAt_18 : decode cX1_partAt 18 = .ok (.bipush 6, 2) := by decide +kernel
theorem dX1_partAt_20 : decode cX1_partAt 20 = .ok (.imul, 1) := by decide +kernel
theorem dX1_partAt_21 : decode cX1_partAt 21 = .ok (.iload_n 2, 1) := by decide +kernel
theorem dX1_partAt_22 : decode cX1_partAt 22 = .ok (.iadd, 1) := by decide +kernel
theorem dX1_partAt_23 : decode cX1_partAt 23 = .ok (.iaload, 1) := by decide +kernel
theorem dX1_partAt_24 : decode cX1_partAt 24 = .ok (.goto 4, 3) := by decide +kernel
theorem dX1_partAt_27 : decode cX1_partAt 27 = .ok (.iconst 0, 1) := by decide +kernel
theorem dX1_partAt_28 : decode cX1_partAt 28 = .ok (.ireturn, 1) := by decide +kernel
theorem dX1_markOf_0 : decode cX1_markOf 0 = .ok (.iload_n 0, 1) := by decide +kernel
theorem dX1_markOf_1 : decode cX1_markOf 1 = .ok (.ifCond .le 19, 3) := by decide +kernel
theorem dX1_markOf_4 : decode cX1_markOf 4 = .ok (.iload_n 0, 1) := by decide +kernel
theorem dX1_markOf_5 : decode cX1_markOf 5 = .ok (.bipush 6, 2) := by decide +kernel
theorem dX1_markOf_7 : decode cX1_markOf 7 = .ok (.if_icmp .gt 13, 3) := by decide +kernel
theorem dX1_markOf_10 : decode cX1_markOf 10 = .ok (.iconst 1, 1) := by decide +kernel
theorem dX1_markOf_11 : decode cX1_markOf 11 = .ok (.iconst 3, 1) := by decide +kernel
theorem dX1_markOf_12 : decode cX1_markOf 12 = .ok (.iload_n 0, 1) := by decide +kernel
theorem dX1_markOf_13 : decode cX1_markOf 13 = .ok (.iconst 1, 1) := by decide +kernel
theorem dX1_markOf_14 : decode cX1_markOf 14 = .ok (.isub, 1) := by decide +kernel
theorem dX1_markOf_15 : decode cX1_markOf 15 = .ok (.imul, 1) := by decide +kernel
theorem dX1_markOf_16 : decode cX1_markOf 16 = .ok (.ishl, 1) := by decide +kernel
theorem dX1_markOf_17 : decode cX1_markOf 17 = .ok (.goto 4, 3) := by decide +kernel
theorem dX1_markOf_20 : decode cX1_markOf 20 = .ok (.iconst 0, 1) := by decide +kernel
theorem dX1_markOf_21 : decode cX1_markOf 21 = .ok (.ireturn, 1) := by decide +kernel
theorem dX1_numberOf_0 : decode cX1_numberOf 0 = .ok (.iload_n 2, 1) := by decide +kernel
theorem dX1_numberOf_1 : decode cX1_numberOf 1 = .ok (.invokestatic 64, 3) := by decide +kernel
theorem dX1_numberOf_4 : decode cX1_numberOf 4 = .ok (.istore_n 3, 1) := by decide +kernel
theorem dX1_numberOf_5 : decode cX1_numberOf 5 = .ok (.iload_n 2, 1) := by decide +kernel
theorem dX1_numberOf_6 : decode cX1_numberOf 6 = .ok (.invokestatic 67, 3) := by decide +kernel
theorem dX1_numberOf_9 : decode cX1_numberOf 9 = .ok (.istore 4, 2) := by decide +kernel
theorem dX1_numberOf_11 : decode cX1_numberOf 11 = .ok (.iload 4, 2) := by decide +kernel
theorem dX1_numberOf_13 : decode cX1_numberOf 13 = .ok (.iload_n 3, 1) := by decide +kernel
theorem dX1_numberOf_14 : decode cX1_numberOf 14 = .ok (.if_icmp .ge 23, 3) := by decide +kernel
theorem dX1_numberOf_17 : decode cX1_numberOf 17 = .ok (.aload_n 0, 1) := by decide +kernel
theorem dX1_numberOf_18 : decode cX1_numberOf 18 = .ok (.getfield 18, 3) := by decide +kernel
theorem dX1_numberOf_21 : decode cX1_numberOf 21 = .ok (.iload 4, 2) := by decide +kernel
theorem dX1_numberOf_23 : decode cX1_numberOf 23 = .ok (.iaload, 1) := by decide +kernel
theorem dX1_numberOf_24 : decode cX1_numberOf 24 = .ok (.iload_n 1, 1) := by decide +kernel
theorem dX1_numberOf_25 : decode cX1_numberOf 25 = .ok (.if_icmp .ne 6, 3) := by decide +kernel
theorem dX1_numberOf_28 : decode cX1_numberOf 28 = .ok (.iload 4, 2) := by decide +kernel
theorem dX1_numberOf_30 : decode cX1_numberOf 30 = .ok (.ireturn, 1) := by decide +kernel
theorem dX1_numberOf_31 : decode cX1_numberOf 31 = .ok (.iinc 4 1, 3) := by decide +kernel
theorem dX1_numberOf_34 : decode cX1_numberOf 34 = .ok (.goto (-23), 3) := by decide +kernel
theorem dX1_numberOf_37 : decode cX1_numberOf 37 = .ok (.iconst (-1), 1) := by decide +kernel
theorem dX1_numberOf_38 : decode cX1_numberOf 38 = .ok (.ireturn, 1) := by decide +kernel
theorem dX1_measure_0 : decode cX1_measure 0 = .ok (.iconst 0, 1) := by decide +kernel
theorem dX1_measure_1 : decode cX1_measure 1 = .ok (.istore_n 2, 1) := by decide +kernel
theorem dX1_measure_2 : decode cX1_measure 2 = .ok (.aload_n 0, 1) := by decide +kernel
theorem dX1_measure_3 : decode cX1_measure 3 = .ok (.getfield 24, 3) := by decide +kernel
theorem dX1_measure_6 : decode cX1_measure 6 = .ok (.iload_n 1, 1) := by decide +kernel
theorem dX1_measure_7 : decode cX1_measure 7 = .ok (.iconst 1, 1) := by decide +kernel
theorem dX1_measure_8 : decode cX1_measure 8 = .ok (.iastore, 1) := by decide +kernel
theorem dX1_measure_9 : decode cX1_measure 9 = .ok (.iconst 0, 1) := by decide +kernel
theorem dX1_measure_10 : decode cX1_measure 10 = .ok (.istore_n 3, 1) := by decide +kernel
theorem dX1_measure_11 : decode cX1_measure 11 = .ok (.iload_n 3, 1) := by decide +kernel
theorem dX1_measure_12 : decode cX1_measure 12 = .ok (.bipush 6, 2) := by decide +kernel
theorem dX1_measure_14 : decode cX1_measure 14 = .ok (.if_icmp .ge 99, 3) := by decide +kernel
theorem dX1_measure_17 : decode cX1_measure 17 = .ok (.aload_n 0, 1) := by decide +kernel
theorem dX1_measure_18 : decode cX1_measure 18 = .ok (.iload_n 1, 1) := by decide +kernel
theorem dX1_measure_19 : decode cX1_measure 19 = .ok (.iload_n 3, 1) := by decide +kernel
theorem dX1_measure_20 : decode cX1_measure 20 = .ok (.invokevirtual 70, 3) := by decide +kernel
theorem dX1_measure_23 : decode cX1_measure 23 = .ok (.ifCond .le 90, 3) := by decide +kernel
theorem dX1_measure_26 : decode cX1_measure 26 = .ok (.aload_n 0, 1) := by decide +kernel
theorem dX1_measure_27 : decode cX1_measure 27 = .ok (.iload_n 1, 1) := by decide +kernel
theorem dX1_measure_28 : decode cX1_measure 28 = .ok (.iload_n 3, 1) := by decide +kernel
theorem dX1_measure_29 : decode cX1_measure 29 = .ok (.invokevirtual 70, 3) := by decide +kernel
theorem dX1_measure_32 : decode cX1_measure 32 = .ok (.istore 4, 2) := by decide +kernel
theorem dX1_measure_34 : decode cX1_measure 34 = .ok (.iload_n 3, 1) := by decide +kernel
theorem dX1_measure_35 : decode cX1_measure 35 = .ok (.ifCond .le 22, 3) := by decide +kernel
theorem dX1_measure_38 : decode cX1_measure 38 = .ok (.aload_n 0, 1) := by decide +kernel
theorem dX1_measure_39 : decode cX1_measure 39 = .ok (.iload_n 1, 1) := by decide +kernel
theorem dX1_measure_40 : decode cX1_measure 40 = .ok (.iload_n 3, 1) := by decide +kernel
theorem dX1_measure_41 : decode cX1_measure 41 = .ok (.iconst 1, 1) := by decide +kernel
theorem dX1_measure_42 : decode cX1_measure 42 = .ok (.isub, 1) := by decide +kernel
theorem dX1_measure_43 : decode cX1_measure 43 = .ok (.invokevirtual 70, 3) := by decide +kernel
theorem dX1_measure_46 : decode cX1_measure 46 = .ok (.iload 4, 2) := by decide +kernel
theorem dX1_measure_48 : decode cX1_measure 48 = .ok (.if_icmp .ne 9, 3) := by decide +kernel
theorem dX1_measure_51 : decode cX1_measure 51 = .ok (.iload_n 2, 1) := by decide +kernel
theorem dX1_measure_52 : decode cX1_measure 52 = .ok (.iconst 1, 1) := by decide +kernel
theorem dX1_measure_53 : decode cX1_measure 53 = .ok (.iadd, 1) := by decide +kernel
theorem dX1_measure_54 : decode cX1_measure 54 = .ok (.goto 4, 3) := by decide +kernel
theorem dX1_measure_57 : decode cX1_measure 57 = .ok (.iconst 1, 1) := by decide +kernel
theorem dX1_measure_58 : decode cX1_measure 58 = .ok (.istore_n 2, 1) := by decide +kernel
theorem dX1_measure_59 : decode cX1_measure 59 = .ok (.aload_n 0, 1) := by decide +kernel
theorem dX1_measure_60 : decode cX1_measure 60 = .ok (.getfield 9, 3) := by decide +kernel
theorem dX1_measure_63 : decode cX1_measure 63 = .ok (.iload_n 1, 1) := by decide +kernel
theorem dX1_measure_64 : decode cX1_measure 64 = .ok (.dup2, 1) := by decide +kernel
theorem dX1_measure_65 : decode cX1_measure 65 = .ok (.iaload, 1) := by decide +kernel
theorem dX1_measure_66 : decode cX1_measure 66 = .ok (.iload 4, 2) := by decide +kernel
theorem dX1_measure_68 : decode cX1_measure 68 = .ok (.iadd, 1) := by decide +kernel
theorem dX1_measure_69 : decode cX1_measure 69 = .ok (.iastore, 1) := by decide +kernel
theorem dX1_measure_70 : decode cX1_measure 70 = .ok (.aload_n 0, 1) := by decide +kernel
theorem dX1_measure_71 : decode cX1_measure 71 = .ok (.getfield 15, 3) := by decide +kernel
theorem dX1_measure_74 : decode cX1_measure 74 = .ok (.iload_n 1, 1) := by decide +kernel
theorem dX1_measure_75 : decode cX1_measure 75 = .ok (.dup2, 1) := by decide +kernel
theorem dX1_measure_76 : decode cX1_measure 76 = .ok (.iaload, 1) := by decide +kernel
theorem dX1_measure_77 : decode cX1_measure 77 = .ok (.iconst 1, 1) := by decide +kernel
theorem dX1_measure_78 : decode cX1_measure 78 = .ok (.iadd, 1) := by decide +kernel
theorem dX1_measure_79 : decode cX1_measure 79 = .ok (.iastore, 1) := by decide +kernel
theorem dX1_measure_80 : decode cX1_measure 80 = .ok (.aload_n 0, 1) := by decide +kernel
theorem dX1_measure_81 : decode cX1_measure 81 = .ok (.getfield 18, 3) := by decide +kernel
theorem dX1_measure_84 : decode cX1_measure 84 = .ok (.iload_n 1, 1) := by decide +kernel
theorem dX1_measure_85 : decode cX1_measure 85 = .ok (.dup2, 1) := by decide +kernel
theorem dX1_measure_86 : decode cX1_measure 86 = .ok (.iaload, 1) := by decide +kernel
theorem dX1_measure_87 : decode cX1_measure 87 = .ok (.iload 4, 2) := by decide +kernel
theorem dX1_measure_89 : decode cX1_measure 89 = .ok (.invokestatic 73, 3) := by decide +kernel
theorem dX1_measure_92 : decode cX1_measure 92 = .ok (.iadd, 1) := by decide +kernel
theorem dX1_measure_93 : decode cX1_measure 93 = .ok (.iastore, 1) := by decide +kernel
theorem dX1_measure_94 : decode cX1_measure 94 = .ok (.aload_n 0, 1) := by decide +kernel
theorem dX1_measure_95 : decode cX1_measure 95 = .ok (.getfield 24, 3) := by decide +kernel
theorem dX1_measure_98 : decode cX1_measure 98 = .ok (.iload_n 1, 1) := by decide +kernel
theorem dX1_measure_99 : decode cX1_measure 99 = .ok (.dup2, 1) := by decide +kernel
theorem dX1_measure_100 : decode cX1_measure 100 = .ok (.iaload, 1) := by decide +kernel
theorem dX1_measure_101 : decode cX1_measure 101 = .ok (.iload 4, 2) := by decide +kernel
theorem dX1_measure_103 : decode cX1_measure 103 = .ok (.iload_n 2, 1) := by decide +kernel
theorem dX1_measure_104 : decode cX1_measure 104 = .ok (.imul, 1) := by decide +kernel
theorem dX1_measure_105 : decode cX1_measure 105 = .ok (.imul, 1) := by decide +kernel
theorem dX1_measure_106 : decode cX1_measure 106 = .ok (.iastore, 1) := by decide +kernel
theorem dX1_measure_107 : decode cX1_measure 107 = .ok (.iinc 3 1, 3) := by decide +kernel
theorem dX1_measure_110 : decode cX1_measure 110 = .ok (.goto (-99), 3) := by decide +kernel
theorem dX1_measure_113 : decode cX1_measure 113 = .ok (.return_, 1) := by decide +kernel
theorem dX1_findConjugate_0 : decode cX1_findConjugate 0 = .ok (.iconst 0, 1) := by decide +kernel
theorem dX1_findConjugate_1 : decode cX1_findConjugate 1 = .ok (.istore_n 2, 1) := by decide +kernel
theorem dX1_findConjugate_2 : decode cX1_findConjugate 2 = .ok (.iconst 1, 1) := by decide +kernel
theorem dX1_findConjugate_3 : decode cX1_findConjugate 3 = .ok (.istore_n 3, 1) := by decide +kernel
theorem dX1_findConjugate_4 : decode cX1_findConjugate 4 = .ok (.iload_n 3, 1) := by decide +kernel
theorem dX1_findConjugate_5 : decode cX1_findConjugate 5 = .ok (.bipush 6, 2) := by decide +kernel
theorem dX1_findConjugate_7 : decode cX1_findConjugate 7 = .ok (.if_icmp .gt 50, 3) := by decide +kernel
theorem dX1_findConjugate_10 : decode cX1_findConjugate 10 = .ok (.iconst 0, 1) := by decide +kernel
theorem dX1_findConjugate_11 : decode cX1_findConjugate 11 = .ok (.istore 4, 2) := by decide +kernel
theorem dX1_findConjugate_13 : decode cX1_findConjugate 13 = .ok (.iconst 0, 1) := by decide +kernel
theorem dX1_findConjugate_14 : decode cX1_findConjugate 14 = .ok (.istore 5, 2) := by decide +kernel
theorem dX1_findConjugate_16 : decode cX1_findConjugate 16 = .ok (.iload 5, 2) := by decide +kernel
theorem dX1_findConjugate_18 : decode cX1_findConjugate 18 = .ok (.bipush 6, 2) := by decide +kernel
theorem dX1_findConjugate_20 : decode cX1_findConjugate 20 = .ok (.if_icmp .ge 23, 3) := by decide +kernel
theorem dX1_findConjugate_23 : decode cX1_findConjugate 23 = .ok (.aload_n 0, 1) := by decide +kernel
theorem dX1_findConjugate_24 : decode cX1_findConjugate 24 = .ok (.iload_n 1, 1) := by decide +kernel
theorem dX1_findConjugate_25 : decode cX1_findConjugate 25 = .ok (.iload 5, 2) := by decide +kernel
theorem dX1_findConjugate_27 : decode cX1_findConjugate 27 = .ok (.invokevirtual 70, 3) := by decide +kernel
theorem dX1_findConjugate_30 : decode cX1_findConjugate 30 = .ok (.iload_n 3, 1) := by decide +kernel
theorem dX1_findConjugate_31 : decode cX1_findConjugate 31 = .ok (.if_icmp .lt 6, 3) := by decide +kernel
theorem dX1_findConjugate_34 : decode cX1_findConjugate 34 = .ok (.iinc 4 1, 3) := by decide +kernel
theorem dX1_findConjugate_37 : decode cX1_findConjugate 37 = .ok (.iinc 5 1, 3) := by decide +kernel
theorem dX1_findConjugate_40 : decode cX1_findConjugate 40 = .ok (.goto (-24), 3) := by decide +kernel
theorem dX1_findConjugate_43 : decode cX1_findConjugate 43 = .ok (.iload_n 2, 1) := by decide +kernel
theorem dX1_findConjugate_44 : decode cX1_findConjugate 44 = .ok (.iload 4, 2) := by decide +kernel
theorem dX1_findConjugate_46 : decode cX1_findConjugate 46 = .ok (.invokestatic 73, 3) := by decide +kernel
theorem dX1_findConjugate_49 : decode cX1_findConjugate 49 = .ok (.iadd, 1) := by decide +kernel
theorem dX1_findConjugate_50 : decode cX1_findConjugate 50 = .ok (.istore_n 2, 1) := by decide +kernel
theorem dX1_findConjugate_51 : decode cX1_findConjugate 51 = .ok (.iinc 3 1, 3) := by decide +kernel
theorem dX1_findConjugate_54 : decode cX1_findConjugate 54 = .ok (.goto (-50), 3) := by decide +kernel
theorem dX1_findConjugate_57 : decode cX1_findConjugate 57 = .ok (.aload_n 0, 1) := by decide +kernel
theorem dX1_findConjugate_58 : decode cX1_findConjugate 58 = .ok (.iload_n 2, 1) := by decide +kernel
theorem dX1_findConjugate_59 : decode cX1_findConjugate 59 = .ok (.aload_n 0, 1) := by decide +kernel
theorem dX1_findConjugate_60 : decode cX1_findConjugate 60 = .ok (.getfield 9, 3) := by decide +kernel
theorem dX1_findConjugate_63 : decode cX1_findConjugate 63 = .ok (.iload_n 1, 1) := by decide +kernel
theorem dX1_findConjugate_64 : decode cX1_findConjugate 64 = .ok (.iaload, 1) := by decide +kernel
theorem dX1_findConjugate_65 : decode cX1_findConjugate 65 = .ok (.invokevirtual 44, 3) := by decide +kernel
theorem dX1_findConjugate_68 : decode cX1_findConjugate 68 = .ok (.ireturn, 1) := by decide +kernel
theorem dX1_joined_0 : decode cX1_joined 0 = .ok (.iload_n 1, 1) := by decide +kernel
theorem dX1_joined_1 : decode cX1_joined 1 = .ok (.invokestatic 54, 3) := by decide +kernel
theorem dX1_joined_4 : decode cX1_joined 4 = .ok (.ifCond .eq 24, 3) := by decide +kernel
theorem dX1_joined_7 : decode cX1_joined 7 = .ok (.iload_n 2, 1) := by decide +kernel
theorem dX1_joined_8 : decode cX1_joined 8 = .ok (.invokestatic 54, 3) := by decide +kernel
theorem dX1_joined_11 : decode cX1_joined 11 = .ok (.ifCond .eq 17, 3) := by decide +kernel
theorem dX1_joined_14 : decode cX1_joined 14 = .ok (.aload_n 0, 1) := by decide +kernel
theorem dX1_joined_15 : decode cX1_joined 15 = .ok (.getfield 27, 3) := by decide +kernel
theorem dX1_joined_18 : decode cX1_joined 18 = .ok (.iload_n 1, 1) := by decide +kernel
theorem dX1_joined_19 : decode cX1_joined 19 = .ok (.bipush 30, 2) := by decide +kernel
theorem dX1_joined_21 : decode cX1_joined 21 = .ok (.imul, 1) := by decide +kernel
theorem dX1_joined_22 : decode cX1_joined 22 = .ok (.iload_n 2, 1) := by decide +kernel
theorem dX1_joined_23 : decode cX1_joined 23 = .ok (.iadd, 1) := by decide +kernel
theorem dX1_joined_24 : decode cX1_joined 24 = .ok (.iaload, 1) := by decide +kernel
theorem dX1_joined_25 : decode cX1_joined 25 = .ok (.goto 4, 3) := by decide +kernel
theorem dX1_joined_28 : decode cX1_joined 28 = .ok (.iconst (-1), 1) := by decide +kernel
theorem dX1_joined_29 : decode cX1_joined 29 = .ok (.ireturn, 1) := by decide +kernel
theorem dX1_multiplied_0 : decode cX1_multiplied 0 = .ok (.iconst 0, 1) := by decide +kernel
theorem dX1_multiplied_1 : decode cX1_multiplied 1 = .ok (.istore_n 3, 1) := by decide +kernel
theorem dX1_multiplied_2 : decode cX1_multiplied 2 = .ok (.iconst 0, 1) := by decide +kernel
theorem dX1_multiplied_3 : decode cX1_multiplied 3 = .ok (.istore 4, 2) := by decide +kernel
theorem dX1_multiplied_5 : decode cX1_multiplied 5 = .ok (.iconst 0, 1) := by decide +kernel
theorem dX1_multiplied_6 : decode cX1_multiplied 6 = .ok (.istore 5, 2) := by decide +kernel
theorem dX1_multiplied_8 : decode cX1_multiplied 8 = .ok (.iload 5, 2) := by decide +kernel
theorem dX1_multiplied_10 : decode cX1_multiplied 10 = .ok (.bipush 6, 2) := by decide +kernel
theorem dX1_multiplied_12 : decode cX1_multiplied 12 = .ok (.if_icmp .ge 38, 3) := by decide +kernel
theorem dX1_multiplied_15 : decode cX1_multiplied 15 = .ok (.iload_n 3, 1) := by decide +kernel
theorem dX1_multiplied_16 : decode cX1_multiplied 16 = .ok (.iload_n 2, 1) := by decide +kernel
theorem dX1_multiplied_17 : decode cX1_multiplied 17 = .ok (.aload_n 0, 1) := by decide +kernel
theorem dX1_multiplied_18 : decode cX1_multiplied 18 = .ok (.iload_n 1, 1) := by decide +kernel
theorem dX1_multiplied_19 : decode cX1_multiplied 19 = .ok (.iload 5, 2) := by decide +kernel
theorem dX1_multiplied_21 : decode cX1_multiplied 21 = .ok (.invokevirtual 70, 3) := by decide +kernel
theorem dX1_multiplied_24 : decode cX1_multiplied 24 = .ok (.imul, 1) := by decide +kernel
theorem dX1_multiplied_25 : decode cX1_multiplied 25 = .ok (.invokestatic 73, 3) := by decide +kernel
theorem dX1_multiplied_28 : decode cX1_multiplied 28 = .ok (.iadd, 1) := by decide +kernel
theorem dX1_multiplied_29 : decode cX1_multiplied 29 = .ok (.istore_n 3, 1) := by decide +kernel
theorem dX1_multiplied_30 : decode cX1_multiplied 30 = .ok (.iload 4, 2) := by decide +kernel
theorem dX1_multiplied_32 : decode cX1_multiplied 32 = .ok (.iload_n 2, 1) := by decide +kernel
theorem dX1_multiplied_33 : decode cX1_multiplied 33 = .ok (.aload_n 0, 1) := by decide +kernel
theorem dX1_multiplied_34 : decode cX1_multiplied 34 = .ok (.iload_n 1, 1) := by decide +kernel
theorem dX1_multiplied_35 : decode cX1_multiplied 35 = .ok (.iload 5, 2) := by decide +kernel
theorem dX1_multiplied_37 : decode cX1_multiplied 37 = .ok (.invokevirtual 70, 3) := by decide +kernel
theorem dX1_multiplied_40 : decode cX1_multiplied 40 = .ok (.imul, 1) := by decide +kernel
theorem dX1_multiplied_41 : decode cX1_multiplied 41 = .ok (.iadd, 1) := by decide +kernel
theorem dX1_multiplied_42 : decode cX1_multiplied 42 = .ok (.istore 4, 2) := by decide +kernel
theorem dX1_multiplied_44 : decode cX1_multiplied 44 = .ok (.iinc 5 1, 3) := by decide +kernel
theorem dX1_multiplied_47 : decode cX1_multiplied 47 = .ok (.goto (-39), 3) := by decide +kernel
theorem dX1_multiplied_50 : decode cX1_multiplied 50 = .ok (.aload_n 0, 1) := by decide +kernel
theorem dX1_multiplied_51 : decode cX1_multiplied 51 = .ok (.iload_n 3, 1) := by decide +kernel
theorem dX1_multiplied_52 : decode cX1_multiplied 52 = .ok (.iload 4, 2) := by decide +kernel
theorem dX1_multiplied_54 : decode cX1_multiplied 54 = .ok (.invokevirtual 44, 3) := by decide +kernel
theorem dX1_multiplied_57 : decode cX1_multiplied 57 = .ok (.ireturn, 1) := by decide +kernel
theorem dX1_kostkaOf_0 : decode cX1_kostkaOf 0 = .ok (.iload_n 1, 1) := by decide +kernel
theorem dX1_kostkaOf_1 : decode cX1_kostkaOf 1 = .ok (.invokestatic 54, 3) := by decide +kernel
theorem dX1_kostkaOf_4 : decode cX1_kostkaOf 4 = .ok (.ifCond .eq 24, 3) := by decide +kernel
theorem dX1_kostkaOf_7 : decode cX1_kostkaOf 7 = .ok (.iload_n 2, 1) := by decide +kernel
theorem dX1_kostkaOf_8 : decode cX1_kostkaOf 8 = .ok (.invokestatic 54, 3) := by decide +kernel
theorem dX1_kostkaOf_11 : decode cX1_kostkaOf 11 = .ok (.ifCond .eq 17, 3) := by decide +kernel
theorem dX1_kostkaOf_14 : decode cX1_kostkaOf 14 = .ok (.aload_n 0, 1) := by decide +kernel
theorem dX1_kostkaOf_15 : decode cX1_kostkaOf 15 = .ok (.getfield 30, 3) := by decide +kernel
theorem dX1_kostkaOf_18 : decode cX1_kostkaOf 18 = .ok (.iload_n 1, 1) := by decide +kernel
theorem dX1_kostkaOf_19 : decode cX1_kostkaOf 19 = .ok (.bipush 30, 2) := by decide +kernel
theorem dX1_kostkaOf_21 : decode cX1_kostkaOf 21 = .ok (.imul, 1) := by decide +kernel
theorem dX1_kostkaOf_22 : decode cX1_kostkaOf 22 = .ok (.iload_n 2, 1) := by decide +kernel
theorem dX1_kostkaOf_23 : decode cX1_kostkaOf 23 = .ok (.iadd, 1) := by decide +kernel
theorem dX1_kostkaOf_24 : decode cX1_kostkaOf 24 = .ok (.iaload, 1) := by decide +kernel
theorem dX1_kostkaOf_25 : decode cX1_kostkaOf 25 = .ok (.goto 4, 3) := by decide +kernel
theorem dX1_kostkaOf_28 : decode cX1_kostkaOf 28 = .ok (.iconst 0, 1) := by decide +kernel
theorem dX1_kostkaOf_29 : decode cX1_kostkaOf 29 = .ok (.ireturn, 1) := by decide +kernel
theorem dX1_characterOf_0 : decode cX1_characterOf 0 = .ok (.iload_n 1, 1) := by decide +kernel
theorem dX1_characterOf_1 : decode cX1_characterOf 1 = .ok (.invokestatic 54, 3) := by decide +kernel
theorem dX1_characterOf_4 : decode cX1_characterOf 4 = .ok (.ifCond .eq 24, 3) := by decide +kernel
theorem dX1_characterOf_7 : decode cX1_characterOf 7 = .ok (.iload_n 2, 1) := by decide +kernel
theorem dX1_characterOf_8 : decode cX1_characterOf 8 = .ok (.invokestatic 54, 3) := by decide +kernel
theorem dX1_characterOf_11 : decode cX1_characterOf 11 = .ok (.ifCond .eq 17, 3) := by decide +kernel
theorem dX1_characterOf_14 : decode cX1_characterOf 14 = .ok (.aload_n 0, 1) := by decide +kernel
theorem dX1_characterOf_15 : decode cX1_characterOf 15 = .ok (.getfield 33, 3) := by decide +kernel
theorem dX1_characterOf_18 : decode cX1_characterOf 18 = .ok (.iload_n 1, 1) := by decide +kernel
theorem dX1_characterOf_19 : decode cX1_characterOf 19 = .ok (.bipush 30, 2) := by decide +kernel
theorem dX1_characterOf_21 : decode cX1_characterOf 21 = .ok (.imul, 1) := by decide +kernel
theorem dX1_characterOf_22 : decode cX1_characterOf 22 = .ok (.iload_n 2, 1) := by decide +kernel
theorem dX1_characterOf_23 : decode cX1_characterOf 23 = .ok (.iadd, 1) := by decide +kernel
theorem dX1_characterOf_24 : decode cX1_characterOf 24 = .ok (.iaload, 1) := by decide +kernel
theorem dX1_characterOf_25 : decode cX1_characterOf 25 = .ok (.goto 4, 3) := by decide +kernel
theorem dX1_characterOf_28 : decode cX1_characterOf 28 = .ok (.iconst 0, 1) := by decide +kernel
theorem dX1_characterOf_29 : decode cX1_characterOf 29 = .ok (.ireturn, 1) := by decide +kernel
theorem dX1_isAbove_0 : decode cX1_isAbove 0 = .ok (.aload_n 0, 1) := by decide +kernel
theorem dX1_isAbove_1 : decode cX1_isAbove 1 = .ok (.getfield 9, 3) := by decide +kernel
theorem dX1_isAbove_4 : decode cX1_isAbove 4 = .ok (.iload_n 1, 1) := by decide +kernel
theorem dX1_isAbove_5 : decode cX1_isAbove 5 = .ok (.iaload, 1) := by decide +kernel
theorem dX1_isAbove_6 : decode cX1_isAbove 6 = .ok (.aload_n 0, 1) := by decide +kernel
theorem dX1_isAbove_7 : decode cX1_isAbove 7 = .ok (.getfield 9, 3) := by decide +kernel
theorem dX1_isAbove_10 : decode cX1_isAbove 10 = .ok (.iload_n 2, 1) := by decide +kernel
theorem dX1_isAbove_11 : decode cX1_isAbove 11 = .ok (.iaload, 1) := by decide +kernel
theorem dX1_isAbove_12 : decode cX1_isAbove 12 = .ok (.if_icmp .eq 5, 3) := by decide +kernel
theorem dX1_isAbove_15 : decode cX1_isAbove 15 = .ok (.iconst 0, 1) := by decide +kernel
theorem dX1_isAbove_16 : decode cX1_isAbove 16 = .ok (.ireturn, 1) := by decide +kernel
theorem dX1_isAbove_17 : decode cX1_isAbove 17 = .ok (.iconst 0, 1) := by decide +kernel
theorem dX1_isAbove_18 : decode cX1_isAbove 18 = .ok (.istore_n 3, 1) := by decide +kernel
theorem dX1_isAbove_19 : decode cX1_isAbove 19 = .ok (.iconst 0, 1) := by decide +kernel
theorem dX1_isAbove_20 : decode cX1_isAbove 20 = .ok (.istore 4, 2) := by decide +kernel
theorem dX1_isAbove_22 : decode cX1_isAbove 22 = .ok (.iload 4, 2) := by decide +kernel
theorem dX1_isAbove_24 : decode cX1_isAbove 24 = .ok (.bipush 6, 2) := by decide +kernel
theorem dX1_isAbove_26 : decode cX1_isAbove 26 = .ok (.if_icmp .ge 33, 3) := by decide +kernel
theorem dX1_isAbove_29 : decode cX1_isAbove 29 = .ok (.iload_n 3, 1) := by decide +kernel
theorem dX1_isAbove_30 : decode cX1_isAbove 30 = .ok (.aload_n 0, 1) := by decide +kernel
theorem dX1_isAbove_31 : decode cX1_isAbove 31 = .ok (.iload_n 1, 1) := by decide +kernel
theorem dX1_isAbove_32 : decode cX1_isAbove 32 = .ok (.iload 4, 2) := by decide +kernel
theorem dX1_isAbove_34 : decode cX1_isAbove 34 = .ok (.invokevirtual 70, 3) := by decide +kernel
theorem dX1_isAbove_37 : decode cX1_isAbove 37 = .ok (.aload_n 0, 1) := by decide +kernel
theorem dX1_isAbove_38 : decode cX1_isAbove 38 = .ok (.iload_n 2, 1) := by decide +kernel
theorem dX1_isAbove_39 : decode cX1_isAbove 39 = .ok (.iload 4, 2) := by decide +kernel
theorem dX1_isAbove_41 : decode cX1_isAbove 41 = .ok (.invokevirtual 70, 3) := by decide +kernel
theorem dX1_isAbove_44 : decode cX1_isAbove 44 = .ok (.isub, 1) := by decide +kernel
theorem dX1_isAbove_45 : decode cX1_isAbove 45 = .ok (.iadd, 1) := by decide +kernel
theorem dX1_isAbove_46 : decode cX1_isAbove 46 = .ok (.istore_n 3, 1) := by decide +kernel
theorem dX1_isAbove_47 : decode cX1_isAbove 47 = .ok (.iload_n 3, 1) := by decide +kernel
theorem dX1_isAbove_48 : decode cX1_isAbove 48 = .ok (.ifCond .ge 5, 3) := by decide +kernel
theorem dX1_isAbove_51 : decode cX1_isAbove 51 = .ok (.iconst 0, 1) := by decide +kernel
theorem dX1_isAbove_52 : decode cX1_isAbove 52 = .ok (.ireturn, 1) := by decide +kernel
theorem dX1_isAbove_53 : decode cX1_isAbove 53 = .ok (.iinc 4 1, 3) := by decide +kernel
theorem dX1_isAbove_56 : decode cX1_isAbove 56 = .ok (.goto (-34), 3) := by decide +kernel
theorem dX1_isAbove_59 : decode cX1_isAbove 59 = .ok (.iconst 1, 1) := by decide +kernel
theorem dX1_isAbove_60 : decode cX1_isAbove 60 = .ok (.ireturn, 1) := by decide +kernel
theorem dX1_fillColumn_0 : decode cX1_fillColumn 0 = .ok (.aload_n 0, 1) := by decide +kernel
theorem dX1_fillColumn_1 : decode cX1_fillColumn 1 = .ok (.iload_n 1, 1) := by decide +kernel
theorem dX1_fillColumn_2 : decode cX1_fillColumn 2 = .ok (.aload_n 0, 1) := by decide +kernel
theorem dX1_fillColumn_3 : decode cX1_fillColumn 3 = .ok (.getfield 15, 3) := by decide +kernel
theorem dX1_fillColumn_6 : decode cX1_fillColumn 6 = .ok (.iload_n 1, 1) := by decide +kernel
theorem dX1_fillColumn_7 : decode cX1_fillColumn 7 = .ok (.iaload, 1) := by decide +kernel
theorem dX1_fillColumn_8 : decode cX1_fillColumn 8 = .ok (.iconst 1, 1) := by decide +kernel
theorem dX1_fillColumn_9 : decode cX1_fillColumn 9 = .ok (.isub, 1) := by decide +kernel
theorem dX1_fillColumn_10 : decode cX1_fillColumn 10 = .ok (.invokevirtual 70, 3) := by decide +kernel
theorem dX1_fillColumn_13 : decode cX1_fillColumn 13 = .ok (.istore_n 2, 1) := by decide +kernel
theorem dX1_fillColumn_14 : decode cX1_fillColumn 14 = .ok (.aload_n 0, 1) := by decide +kernel
theorem dX1_fillColumn_15 : decode cX1_fillColumn 15 = .ok (.getfield 9, 3) := by decide +kernel
theorem dX1_fillColumn_18 : decode cX1_fillColumn 18 = .ok (.iload_n 1, 1) := by decide +kernel
theorem dX1_fillColumn_19 : decode cX1_fillColumn 19 = .ok (.iaload, 1) := by decide +kernel
theorem dX1_fillColumn_20 : decode cX1_fillColumn 20 = .ok (.iload_n 2, 1) := by decide +kernel
theorem dX1_fillColumn_21 : decode cX1_fillColumn 21 = .ok (.isub, 1) := by decide +kernel
theorem dX1_fillColumn_22 : decode cX1_fillColumn 22 = .ok (.istore_n 3, 1) := by decide +kernel
theorem dX1_fillColumn_23 : decode cX1_fillColumn 23 = .ok (.aload_n 0, 1) := by decide +kernel
theorem dX1_fillColumn_24 : decode cX1_fillColumn 24 = .ok (.aload_n 0, 1) := by decide +kernel
theorem dX1_fillColumn_25 : decode cX1_fillColumn 25 = .ok (.getfield 18, 3) := by decide +kernel
theorem dX1_fillColumn_28 : decode cX1_fillColumn 28 = .ok (.iload_n 1, 1) := by decide +kernel
theorem dX1_fillColumn_29 : decode cX1_fillColumn 29 = .ok (.iaload, 1) := by decide +kernel
theorem dX1_fillColumn_30 : decode cX1_fillColumn 30 = .ok (.iload_n 2, 1) := by decide +kernel
theorem dX1_fillColumn_31 : decode cX1_fillColumn 31 = .ok (.invokestatic 73, 3) := by decide +kernel
theorem dX1_fillColumn_34 : decode cX1_fillColumn 34 = .ok (.isub, 1) := by decide +kernel
theorem dX1_fillColumn_35 : decode cX1_fillColumn 35 = .ok (.iload_n 3, 1) := by decide +kernel
theorem dX1_fillColumn_36 : decode cX1_fillColumn 36 = .ok (.invokevirtual 44, 3) := by decide +kernel
theorem dX1_fillColumn_39 : decode cX1_fillColumn 39 = .ok (.istore 4, 2) := by decide +kernel
theorem dX1_fillColumn_41 : decode cX1_fillColumn 41 = .ok (.aload_n 0, 1) := by decide +kernel
theorem dX1_fillColumn_42 : decode cX1_fillColumn 42 = .ok (.getfield 9, 3) := by decide +kernel
theorem dX1_fillColumn_45 : decode cX1_fillColumn 45 = .ok (.iload_n 1, 1) := by decide +kernel
theorem dX1_fillColumn_46 : decode cX1_fillColumn 46 = .ok (.iaload, 1) := by decide +kernel
theorem dX1_fillColumn_47 : decode cX1_fillColumn 47 = .ok (.invokestatic 67, 3) := by decide +kernel
theorem dX1_fillColumn_50 : decode cX1_fillColumn 50 = .ok (.istore 5, 2) := by decide +kernel
theorem dX1_fillColumn_52 : decode cX1_fillColumn 52 = .ok (.iload 5, 2) := by decide +kernel
theorem dX1_fillColumn_54 : decode cX1_fillColumn 54 = .ok (.aload_n 0, 1) := by decide +kernel
theorem dX1_fillColumn_55 : decode cX1_fillColumn 55 = .ok (.getfield 9, 3) := by decide +kernel
theorem dX1_fillColumn_58 : decode cX1_fillColumn 58 = .ok (.iload_n 1, 1) := by decide +kernel
theorem dX1_fillColumn_59 : decode cX1_fillColumn 59 = .ok (.iaload, 1) := by decide +kernel
theorem dX1_fillColumn_60 : decode cX1_fillColumn 60 = .ok (.invokestatic 64, 3) := by decide +kernel
theorem dX1_fillColumn_63 : decode cX1_fillColumn 63 = .ok (.if_icmp .ge 114, 3) := by decide +kernel
theorem dX1_fillColumn_66 : decode cX1_fillColumn 66 = .ok (.iconst 0, 1) := by decide +kernel
theorem dX1_fillColumn_67 : decode cX1_fillColumn 67 = .ok (.istore 6, 2) := by decide +kernel
theorem dX1_fillColumn_69 : decode cX1_fillColumn 69 = .ok (.iconst 0, 1) := by decide +kernel
theorem dX1_fillColumn_70 : decode cX1_fillColumn 70 = .ok (.istore 7, 2) := by decide +kernel
theorem dX1_fillColumn_72 : decode cX1_fillColumn 72 = .ok (.iload_n 3, 1) := by decide +kernel
theorem dX1_fillColumn_73 : decode cX1_fillColumn 73 = .ok (.invokestatic 67, 3) := by decide +kernel
theorem dX1_fillColumn_76 : decode cX1_fillColumn 76 = .ok (.istore 8, 2) := by decide +kernel
theorem dX1_fillColumn_78 : decode cX1_fillColumn 78 = .ok (.iload 8, 2) := by decide +kernel
theorem dX1_fillColumn_80 : decode cX1_fillColumn 80 = .ok (.iload_n 3, 1) := by decide +kernel
theorem dX1_fillColumn_81 : decode cX1_fillColumn 81 = .ok (.invokestatic 64, 3) := by decide +kernel
theorem dX1_fillColumn_84 : decode cX1_fillColumn 84 = .ok (.if_icmp .ge 59, 3) := by decide +kernel
theorem dX1_fillColumn_87 : decode cX1_fillColumn 87 = .ok (.iload 6, 2) := by decide +kernel
theorem dX1_fillColumn_89 : decode cX1_fillColumn 89 = .ok (.aload_n 0, 1) := by decide +kernel
theorem dX1_fillColumn_90 : decode cX1_fillColumn 90 = .ok (.iload 5, 2) := by decide +kernel
theorem dX1_fillColumn_92 : decode cX1_fillColumn 92 = .ok (.iload 8, 2) := by decide +kernel
theorem dX1_fillColumn_94 : decode cX1_fillColumn 94 = .ok (.invokevirtual 76, 3) := by decide +kernel
theorem dX1_fillColumn_97 : decode cX1_fillColumn 97 = .ok (.ifCond .eq 14, 3) := by decide +kernel
theorem dX1_fillColumn_100 : decode cX1_fillColumn 100 = .ok (.aload_n 0, 1) := by decide +kernel
theorem dX1_fillColumn_101 : decode cX1_fillColumn 101 = .ok (.iload 8, 2) := by decide +kernel
theorem dX1_fillColumn_103 : decode cX1_fillColumn 103 = .ok (.iload 4, 2) := by decide +kernel
theorem dX1_fillColumn_105 : decode cX1_fillColumn 105 = .ok (.invokevirtual 80, 3) := by decide +kernel
theorem dX1_fillColumn_108 : decode cX1_fillColumn 108 = .ok (.goto 4, 3) := by decide +kernel
theorem dX1_fillColumn_111 : decode cX1_fillColumn 111 = .ok (.iconst 0, 1) := by decide +kernel
theorem dX1_fillColumn_112 : decode cX1_fillColumn 112 = .ok (.iadd, 1) := by decide +kernel
theorem dX1_fillColumn_113 : decode cX1_fillColumn 113 = .ok (.istore 6, 2) := by decide +kernel
theorem dX1_fillColumn_115 : decode cX1_fillColumn 115 = .ok (.iload 7, 2) := by decide +kernel
theorem dX1_fillColumn_117 : decode cX1_fillColumn 117 = .ok (.aload_n 0, 1) := by decide +kernel
theorem dX1_fillColumn_118 : decode cX1_fillColumn 118 = .ok (.iload 5, 2) := by decide +kernel
theorem dX1_fillColumn_120 : decode cX1_fillColumn 120 = .ok (.iload 8, 2) := by decide +kernel
theorem dX1_fillColumn_122 : decode cX1_fillColumn 122 = .ok (.invokevirtual 83, 3) := by decide +kernel
theorem dX1_fillColumn_125 : decode cX1_fillColumn 125 = .ok (.aload_n 0, 1) := by decide +kernel
theorem dX1_fillColumn_126 : decode cX1_fillColumn 126 = .ok (.iload 8, 2) := by decide +kernel
theorem dX1_fillColumn_128 : decode cX1_fillColumn 128 = .ok (.iload 4, 2) := by decide +kernel
theorem dX1_fillColumn_130 : decode cX1_fillColumn 130 = .ok (.invokevirtual 86, 3) := by decide +kernel
theorem dX1_fillColumn_133 : decode cX1_fillColumn 133 = .ok (.imul, 1) := by decide +kernel
theorem dX1_fillColumn_134 : decode cX1_fillColumn 134 = .ok (.iadd, 1) := by decide +kernel
theorem dX1_fillColumn_135 : decode cX1_fillColumn 135 = .ok (.istore 7, 2) := by decide +kernel
theorem dX1_fillColumn_137 : decode cX1_fillColumn 137 = .ok (.iinc 8 1, 3) := by decide +kernel
theorem dX1_fillColumn_140 : decode cX1_fillColumn 140 = .ok (.goto (-62), 3) := by decide +kernel
theorem dX1_fillColumn_143 : decode cX1_fillColumn 143 = .ok (.aload_n 0, 1) := by decide +kernel
theorem dX1_fillColumn_144 : decode cX1_fillColumn 144 = .ok (.getfield 30, 3) := by decide +kernel
theorem dX1_fillColumn_147 : decode cX1_fillColumn 147 = .ok (.iload 5, 2) := by decide +kernel
theorem dX1_fillColumn_149 : decode cX1_fillColumn 149 = .ok (.bipush 30, 2) := by decide +kernel
theorem dX1_fillColumn_151 : decode cX1_fillColumn 151 = .ok (.imul, 1) := by decide +kernel
theorem dX1_fillColumn_152 : decode cX1_fillColumn 152 = .ok (.iload_n 1, 1) := by decide +kernel
theorem dX1_fillColumn_153 : decode cX1_fillColumn 153 = .ok (.iadd, 1) := by decide +kernel
theorem dX1_fillColumn_154 : decode cX1_fillColumn 154 = .ok (.iload 6, 2) := by decide +kernel
theorem dX1_fillColumn_156 : decode cX1_fillColumn 156 = .ok (.iastore, 1) := by decide +kernel
theorem dX1_fillColumn_157 : decode cX1_fillColumn 157 = .ok (.aload_n 0, 1) := by decide +kernel
theorem dX1_fillColumn_158 : decode cX1_fillColumn 158 = .ok (.getfield 33, 3) := by decide +kernel
theorem dX1_fillColumn_161 : decode cX1_fillColumn 161 = .ok (.iload 5, 2) := by decide +kernel
theorem dX1_fillColumn_163 : decode cX1_fillColumn 163 = .ok (.bipush 30, 2) := by decide +kernel
theorem dX1_fillColumn_165 : decode cX1_fillColumn 165 = .ok (.imul, 1) := by decide +kernel
theorem dX1_fillColumn_166 : decode cX1_fillColumn 166 = .ok (.iload_n 1, 1) := by decide +kernel
theorem dX1_fillColumn_167 : decode cX1_fillColumn 167 = .ok (.iadd, 1) := by decide +kernel
theorem dX1_fillColumn_168 : decode cX1_fillColumn 168 = .ok (.iload 7, 2) := by decide +kernel
theorem dX1_fillColumn_170 : decode cX1_fillColumn 170 = .ok (.iastore, 1) := by decide +kernel
theorem dX1_fillColumn_171 : decode cX1_fillColumn 171 = .ok (.iinc 5 1, 3) := by decide +kernel
theorem dX1_fillColumn_174 : decode cX1_fillColumn 174 = .ok (.goto (-122), 3) := by decide +kernel
theorem dX1_fillColumn_177 : decode cX1_fillColumn 177 = .ok (.return_, 1) := by decide +kernel
theorem dX1_isRowStrip_0 : decode cX1_isRowStrip 0 = .ok (.iconst 0, 1) := by decide +kernel
theorem dX1_isRowStrip_1 : decode cX1_isRowStrip 1 = .ok (.istore_n 3, 1) := by decide +kernel
theorem dX1_isRowStrip_2 : decode cX1_isRowStrip 2 = .ok (.iload_n 3, 1) := by decide +kernel
theorem dX1_isRowStrip_3 : decode cX1_isRowStrip 3 = .ok (.bipush 6, 2) := by decide +kernel
theorem dX1_isRowStrip_5 : decode cX1_isRowStrip 5 = .ok (.if_icmp .ge 43, 3) := by decide +kernel
theorem dX1_isRowStrip_8 : decode cX1_isRowStrip 8 = .ok (.aload_n 0, 1) := by decide +kernel
theorem dX1_isRowStrip_9 : decode cX1_isRowStrip 9 = .ok (.iload_n 2, 1) := by decide +kernel
theorem dX1_isRowStrip_10 : decode cX1_isRowStrip 10 = .ok (.iload_n 3, 1) := by decide +kernel
theorem dX1_isRowStrip_11 : decode cX1_isRowStrip 11 = .ok (.invokevirtual 70, 3) := by decide +kernel
theorem dX1_isRowStrip_14 : decode cX1_isRowStrip 14 = .ok (.aload_n 0, 1) := by decide +kernel
theorem dX1_isRowStrip_15 : decode cX1_isRowStrip 15 = .ok (.iload_n 1, 1) := by decide +kernel
theorem dX1_isRowStrip_16 : decode cX1_isRowStrip 16 = .ok (.iload_n 3, 1) := by decide +kernel
theorem dX1_isRowStrip_17 : decode cX1_isRowStrip 17 = .ok (.invokevirtual 70, 3) := by decide +kernel
theorem dX1_isRowStrip_20 : decode cX1_isRowStrip 20 = .ok (.if_icmp .gt 20, 3) := by decide +kernel
theorem dX1_isRowStrip_23 : decode cX1_isRowStrip 23 = .ok (.aload_n 0, 1) := by decide +kernel
theorem dX1_isRowStrip_24 : decode cX1_isRowStrip 24 = .ok (.iload_n 2, 1) := by decide +kernel
theorem dX1_isRowStrip_25 : decode cX1_isRowStrip 25 = .ok (.iload_n 3, 1) := by decide +kernel
theorem dX1_isRowStrip_26 : decode cX1_isRowStrip 26 = .ok (.invokevirtual 70, 3) := by decide +kernel
theorem dX1_isRowStrip_29 : decode cX1_isRowStrip 29 = .ok (.aload_n 0, 1) := by decide +kernel
theorem dX1_isRowStrip_30 : decode cX1_isRowStrip 30 = .ok (.iload_n 1, 1) := by decide +kernel
theorem dX1_isRowStrip_31 : decode cX1_isRowStrip 31 = .ok (.iload_n 3, 1) := by decide +kernel
theorem dX1_isRowStrip_32 : decode cX1_isRowStrip 32 = .ok (.iconst 1, 1) := by decide +kernel
theorem dX1_isRowStrip_33 : decode cX1_isRowStrip 33 = .ok (.iadd, 1) := by decide +kernel
theorem dX1_isRowStrip_34 : decode cX1_isRowStrip 34 = .ok (.invokevirtual 70, 3) := by decide +kernel
theorem dX1_isRowStrip_37 : decode cX1_isRowStrip 37 = .ok (.if_icmp .ge 5, 3) := by decide +kernel
theorem dX1_isRowStrip_40 : decode cX1_isRowStrip 40 = .ok (.iconst 0, 1) := by decide +kernel
theorem dX1_isRowStrip_41 : decode cX1_isRowStrip 41 = .ok (.ireturn, 1) := by decide +kernel
theorem dX1_isRowStrip_42 : decode cX1_isRowStrip 42 = .ok (.iinc 3 1, 3) := by decide +kernel
theorem dX1_isRowStrip_45 : decode cX1_isRowStrip 45 = .ok (.goto (-43), 3) := by decide +kernel
theorem dX1_isRowStrip_48 : decode cX1_isRowStrip 48 = .ok (.iconst 1, 1) := by decide +kernel
theorem dX1_isRowStrip_49 : decode cX1_isRowStrip 49 = .ok (.ireturn, 1) := by decide +kernel
theorem dX1_rimSign_0 : decode cX1_rimSign 0 = .ok (.bipush 6, 2) := by decide +kernel
theorem dX1_rimSign_2 : decode cX1_rimSign 2 = .ok (.istore_n 3, 1) := by decide +kernel
theorem dX1_rimSign_3 : decode cX1_rimSign 3 = .ok (.iconst (-1), 1) := by decide +kernel
theorem dX1_rimSign_4 : decode cX1_rimSign 4 = .ok (.istore 4, 2) := by decide +kernel
theorem dX1_rimSign_6 : decode cX1_rimSign 6 = .ok (.iconst 0, 1) := by decide +kernel
theorem dX1_rimSign_7 : decode cX1_rimSign 7 = .ok (.istore 5, 2) := by decide +kernel
theorem dX1_rimSign_9 : decode cX1_rimSign 9 = .ok (.iload 5, 2) := by decide +kernel
theorem dX1_rimSign_11 : decode cX1_rimSign 11 = .ok (.bipush 6, 2) := by decide +kernel
theorem dX1_rimSign_13 : decode cX1_rimSign 13 = .ok (.if_icmp .ge 56, 3) := by decide +kernel
theorem dX1_rimSign_16 : decode cX1_rimSign 16 = .ok (.aload_n 0, 1) := by decide +kernel
theorem dX1_rimSign_17 : decode cX1_rimSign 17 = .ok (.iload_n 2, 1) := by decide +kernel
theorem dX1_rimSign_18 : decode cX1_rimSign 18 = .ok (.iload 5, 2) := by decide +kernel
theorem dX1_rimSign_20 : decode cX1_rimSign 20 = .ok (.invokevirtual 70, 3) := by decide +kernel
theorem dX1_rimSign_23 : decode cX1_rimSign 23 = .ok (.aload_n 0, 1) := by decide +kernel
theorem dX1_rimSign_24 : decode cX1_rimSign 24 = .ok (.iload_n 1, 1) := by decide +kernel
theorem dX1_rimSign_25 : decode cX1_rimSign 25 = .ok (.iload 5, 2) := by decide +kernel
theorem dX1_rimSign_27 : decode cX1_rimSign 27 = .ok (.invokevirtual 70, 3) := by decide +kernel
theorem dX1_rimSign_30 : decode cX1_rimSign 30 = .ok (.if_icmp .le 5, 3) := by decide +kernel
theorem dX1_rimSign_33 : decode cX1_rimSign 33 = .ok (.iconst 0, 1) := by decide +kernel
theorem dX1_rimSign_34 : decode cX1_rimSign 34 = .ok (.ireturn, 1) := by decide +kernel
theorem dX1_rimSign_35 : decode cX1_rimSign 35 = .ok (.aload_n 0, 1) := by decide +kernel
theorem dX1_rimSign_36 : decode cX1_rimSign 36 = .ok (.iload_n 2, 1) := by decide +kernel
theorem dX1_rimSign_37 : decode cX1_rimSign 37 = .ok (.iload 5, 2) := by decide +kernel
theorem dX1_rimSign_39 : decode cX1_rimSign 39 = .ok (.invokevirtual 70, 3) := by decide +kernel
theorem dX1_rimSign_42 : decode cX1_rimSign 42 = .ok (.aload_n 0, 1) := by decide +kernel
theorem dX1_rimSign_43 : decode cX1_rimSign 43 = .ok (.iload_n 1, 1) := by decide +kernel
theorem dX1_rimSign_44 : decode cX1_rimSign 44 = .ok (.iload 5, 2) := by decide +kernel
theorem dX1_rimSign_46 : decode cX1_rimSign 46 = .ok (.invokevirtual 70, 3) := by decide +kernel
theorem dX1_rimSign_49 : decode cX1_rimSign 49 = .ok (.if_icmp .ge 14, 3) := by decide +kernel
theorem dX1_rimSign_52 : decode cX1_rimSign 52 = .ok (.iload_n 3, 1) := by decide +kernel
theorem dX1_rimSign_53 : decode cX1_rimSign 53 = .ok (.iload 5, 2) := by decide +kernel
theorem dX1_rimSign_55 : decode cX1_rimSign 55 = .ok (.invokestatic 89, 3) := by decide +kernel
theorem dX1_rimSign_58 : decode cX1_rimSign 58 = .ok (.istore_n 3, 1) := by decide +kernel
theorem dX1_rimSign_59 : decode cX1_rimSign 59 = .ok (.iload 5, 2) := by decide +kernel
theorem dX1_rimSign_61 : decode cX1_rimSign 61 = .ok (.istore 4, 2) := by decide +kernel
theorem dX1_rimSign_63 : decode cX1_rimSign 63 = .ok (.iinc 5 1, 3) := by decide +kernel
theorem dX1_rimSign_66 : decode cX1_rimSign 66 = .ok (.goto (-57), 3) := by decide +kernel
theorem dX1_rimSign_69 : decode cX1_rimSign 69 = .ok (.iload_n 3, 1) := by decide +kernel
theorem dX1_rimSign_70 : decode cX1_rimSign 70 = .ok (.istore 5, 2) := by decide +kernel
theorem dX1_rimSign_72 : decode cX1_rimSign 72 = .ok (.iload 5, 2) := by decide +kernel
theorem dX1_rimSign_74 : decode cX1_rimSign 74 = .ok (.iload 4, 2) := by decide +kernel
theorem dX1_rimSign_76 : decode cX1_rimSign 76 = .ok (.if_icmp .ge 32, 3) := by decide +kernel
theorem dX1_rimSign_79 : decode cX1_rimSign 79 = .ok (.aload_n 0, 1) := by decide +kernel
theorem dX1_rimSign_80 : decode cX1_rimSign 80 = .ok (.iload_n 2, 1) := by decide +kernel
theorem dX1_rimSign_81 : decode cX1_rimSign 81 = .ok (.iload 5, 2) := by decide +kernel
theorem dX1_rimSign_83 : decode cX1_rimSign 83 = .ok (.invokevirtual 70, 3) := by decide +kernel
theorem dX1_rimSign_86 : decode cX1_rimSign 86 = .ok (.aload_n 0, 1) := by decide +kernel
theorem dX1_rimSign_87 : decode cX1_rimSign 87 = .ok (.iload_n 1, 1) := by decide +kernel
theorem dX1_rimSign_88 : decode cX1_rimSign 88 = .ok (.iload 5, 2) := by decide +kernel
theorem dX1_rimSign_90 : decode cX1_rimSign 90 = .ok (.iconst 1, 1) := by decide +kernel
theorem dX1_rimSign_91 : decode cX1_rimSign 91 = .ok (.iadd, 1) := by decide +kernel
theorem dX1_rimSign_92 : decode cX1_rimSign 92 = .ok (.invokevirtual 70, 3) := by decide +kernel
theorem dX1_rimSign_95 : decode cX1_rimSign 95 = .ok (.iconst 1, 1) := by decide +kernel
theorem dX1_rimSign_96 : decode cX1_rimSign 96 = .ok (.isub, 1) := by decide +kernel
theorem dX1_rimSign_97 : decode cX1_rimSign 97 = .ok (.if_icmp .eq 5, 3) := by decide +kernel
theorem dX1_rimSign_100 : decode cX1_rimSign 100 = .ok (.iconst 0, 1) := by decide +kernel
theorem dX1_rimSign_101 : decode cX1_rimSign 101 = .ok (.ireturn, 1) := by decide +kernel
theorem dX1_rimSign_102 : decode cX1_rimSign 102 = .ok (.iinc 5 1, 3) := by decide +kernel
theorem dX1_rimSign_105 : decode cX1_rimSign 105 = .ok (.goto (-33), 3) := by decide +kernel
theorem dX1_rimSign_108 : decode cX1_rimSign 108 = .ok (.iload 4, 2) := by decide +kernel
theorem dX1_rimSign_110 : decode cX1_rimSign 110 = .ok (.iload_n 3, 1) := by decide +kernel
theorem dX1_rimSign_111 : decode cX1_rimSign 111 = .ok (.isub, 1) := by decide +kernel
theorem dX1_rimSign_112 : decode cX1_rimSign 112 = .ok (.iconst 2, 1) := by decide +kernel
theorem dX1_rimSign_113 : decode cX1_rimSign 113 = .ok (.irem, 1) := by decide +kernel
theorem dX1_rimSign_114 : decode cX1_rimSign 114 = .ok (.ifCond .ne 7, 3) := by decide +kernel
theorem dX1_rimSign_117 : decode cX1_rimSign 117 = .ok (.iconst 1, 1) := by decide +kernel
theorem dX1_rimSign_118 : decode cX1_rimSign 118 = .ok (.goto 4, 3) := by decide +kernel
theorem dX1_rimSign_121 : decode cX1_rimSign 121 = .ok (.iconst (-1), 1) := by decide +kernel
theorem dX1_rimSign_122 : decode cX1_rimSign 122 = .ok (.ireturn, 1) := by decide +kernel
theorem dX2_init_0 : decode cX2_init 0 = .ok (.aload_n 0, 1) := by decide +kernel
theorem dX2_init_1 : decode cX2_init 1 = .ok (.invokespecial 3, 3) := by decide +kernel
theorem dX2_init_4 : decode cX2_init 4 = .ok (.aload_n 0, 1) := by decide +kernel
theorem dX2_init_5 : decode cX2_init 5 = .ok (.bipush 7, 2) := by decide +kernel
theorem dX2_init_7 : decode cX2_init 7 = .ok (.bipush 30, 2) := by decide +kernel
theorem dX2_init_9 : decode cX2_init 9 = .ok (.multianewarray 9 2, 4) := by decide +kernel
theorem dX2_init_13 : decode cX2_init 13 = .ok (.putfield 11, 3) := by decide +kernel
theorem dX2_init_16 : decode cX2_init 16 = .ok (.aload_n 0, 1) := by decide +kernel
theorem dX2_init_17 : decode cX2_init 17 = .ok (.bipush 30, 2) := by decide +kernel
theorem dX2_init_19 : decode cX2_init 19 = .ok (.newarray .long, 2) := by decide +kernel
theorem dX2_init_21 : decode cX2_init 21 = .ok (.putfield 16, 3) := by decide +kernel
theorem dX2_init_24 : decode cX2_init 24 = .ok (.aload_n 0, 1) := by decide +kernel
theorem dX2_init_25 : decode cX2_init 25 = .ok (.bipush 30, 2) := by decide +kernel
theorem dX2_init_27 : decode cX2_init 27 = .ok (.newarray .long, 2) := by decide +kernel
theorem dX2_init_29 : decode cX2_init 29 = .ok (.putfield 20, 3) := by decide +kernel
theorem dX2_init_32 : decode cX2_init 32 = .ok (.aload_n 0, 1) := by decide +kernel
theorem dX2_init_33 : decode cX2_init 33 = .ok (.aload_n 1, 1) := by decide +kernel
theorem dX2_init_34 : decode cX2_init 34 = .ok (.putfield 23, 3) := by decide +kernel
theorem dX2_init_37 : decode cX2_init 37 = .ok (.return_, 1) := by decide +kernel
theorem dX2_scalarOf_0 : decode cX2_scalarOf 0 = .ok (.lconst 0, 1) := by decide +kernel
theorem dX2_scalarOf_1 : decode cX2_scalarOf 1 = .ok (.lstore_n 2, 1) := by decide +kernel
theorem dX2_scalarOf_2 : decode cX2_scalarOf 2 = .ok (.iconst 0, 1) := by decide +kernel
theorem dX2_scalarOf_3 : decode cX2_scalarOf 3 = .ok (.istore 4, 2) := by decide +kernel
theorem dX2_scalarOf_5 : decode cX2_scalarOf 5 = .ok (.iload 4, 2) := by decide +kernel
theorem dX2_scalarOf_7 : decode cX2_scalarOf 7 = .ok (.bipush 30, 2) := by decide +kernel
theorem dX2_scalarOf_9 : decode cX2_scalarOf 9 = .ok (.if_icmp .ge 21, 3) := by decide +kernel
theorem dX2_scalarOf_12 : decode cX2_scalarOf 12 = .ok (.lload_n 2, 1) := by decide +kernel
theorem dX2_scalarOf_13 : decode cX2_scalarOf 13 = .ok (.aload_n 0, 1) := by decide +kernel
theorem dX2_scalarOf_14 : decode cX2_scalarOf 14 = .ok (.iload 4, 2) := by decide +kernel
theorem dX2_scalarOf_16 : decode cX2_scalarOf 16 = .ok (.laload, 1) := by decide +kernel
theorem dX2_scalarOf_17 : decode cX2_scalarOf 17 = .ok (.aload_n 1, 1) := by decide +kernel
theorem dX2_scalarOf_18 : decode cX2_scalarOf 18 = .ok (.iload 4, 2) := by decide +kernel
theorem dX2_scalarOf_20 : decode cX2_scalarOf 20 = .ok (.laload, 1) := by decide +kernel
theorem dX2_scalarOf_21 : decode cX2_scalarOf 21 = .ok (.lmul, 1) := by decide +kernel
theorem dX2_scalarOf_22 : decode cX2_scalarOf 22 = .ok (.ladd, 1) := by decide +kernel
theorem dX2_scalarOf_23 : decode cX2_scalarOf 23 = .ok (.lstore_n 2, 1) := by decide +kernel
theorem dX2_scalarOf_24 : decode cX2_scalarOf 24 = .ok (.iinc 4 1, 3) := by decide +kernel
theorem dX2_scalarOf_27 : decode cX2_scalarOf 27 = .ok (.goto (-22), 3) := by decide +kernel
theorem dX2_scalarOf_30 : decode cX2_scalarOf 30 = .ok (.lload_n 2, 1) := by decide +kernel
theorem dX2_scalarOf_31 : decode cX2_scalarOf 31 = .ok (.lreturn, 1) := by decide +kernel
theorem dX2_multiply_0 : decode cX2_multiply 0 = .ok (.aload_n 3, 1) := by decide +kernel
theorem dX2_multiply_1 : decode cX2_multiply 1 = .ok (.lconst 0, 1) := by decide +kernel
theorem dX2_multiply_2 : decode cX2_multiply 2 = .ok (.invokestatic 27, 3) := by decide +kernel
theorem dX2_multiply_5 : decode cX2_multiply 5 = .ok (.iconst 0, 1) := by decide +kernel
theorem dX2_multiply_6 : decode cX2_multiply 6 = .ok (.istore 4, 2) := by decide +kernel
theorem dX2_multiply_8 : decode cX2_multiply 8 = .ok (.iload 4, 2) := by decide +kernel
theorem dX2_multiply_10 : decode cX2_multiply 10 = .ok (.bipush 30, 2) := by decide +kernel
theorem dX2_multiply_12 : decode cX2_multiply 12 = .ok (.if_icmp .ge 30, 3) := by decide +kernel
theorem dX2_multiply_15 : decode cX2_multiply 15 = .ok (.aload_n 1, 1) := by decide +kernel
theorem dX2_multiply_16 : decode cX2_multiply 16 = .ok (.iload 4, 2) := by decide +kernel
theorem dX2_multiply_18 : decode cX2_multiply 18 = .ok (.laload, 1) := by decide +kernel
theorem dX2_multiply_19 : decode cX2_multiply 19 = .ok (.lconst 0, 1) := by decide +kernel
theorem dX2_multiply_20 : decode cX2_multiply 20 = .ok (.lcmp, 1) := by decide +kernel
theorem dX2_multiply_21 : decode cX2_multiply 21 = .ok (.ifCond .eq 15, 3) := by decide +kernel
theorem dX2_multiply_24 : decode cX2_multiply 24 = .ok (.aload_n 0, 1) := by decide +kernel
theorem dX2_multiply_25 : decode cX2_multiply 25 = .ok (.iload 4, 2) := by decide +kernel
theorem dX2_multiply_27 : decode cX2_multiply 27 = .ok (.aload_n 1, 1) := by decide +kernel
theorem dX2_multiply_28 : decode cX2_multiply 28 = .ok (.iload 4, 2) := by decide +kernel
theorem dX2_multiply_30 : decode cX2_multiply 30 = .ok (.laload, 1) := by decide +kernel
theorem dX2_multiply_31 : decode cX2_multiply 31 = .ok (.aload_n 2, 1) := by decide +kernel
theorem dX2_multiply_32 : decode cX2_multiply 32 = .ok (.aload_n 3, 1) := by decide +kernel
theorem dX2_multiply_33 : decode cX2_multiply 33 = .ok (.invokevirtual 33, 3) := by decide +kernel
theorem dX2_multiply_36 : decode cX2_multiply 36 = .ok (.iinc 4 1, 3) := by decide +kernel
theorem dX2_multiply_39 : decode cX2_multiply 39 = .ok (.goto (-31), 3) := by decide +kernel
theorem dX2_multiply_42 : decode cX2_multiply 42 = .ok (.aload_n 3, 1) := by decide +kernel
theorem dX2_multiply_43 : decode cX2_multiply 43 = .ok (.invokestatic 37, 3) := by decide +kernel
theorem dX2_multiply_46 : decode cX2_multiply 46 = .ok (.return_, 1) := by decide +kernel
theorem dX2_addJoined_0 : decode cX2_addJoined 0 = .ok (.bipush 6, 2) := by decide +kernel
theorem dX2_addJoined_2 : decode cX2_addJoined 2 = .ok (.aload_n 0, 1) := by decide +kernel
theorem dX2_addJoined_3 : decode cX2_addJoined 3 = .ok (.getfield 23, 3) := by decide +kernel
theorem dX2_addJoined_6 : decode cX2_addJoined 6 = .ok (.getfield 41, 3) := by decide +kernel
theorem dX2_addJoined_9 : decode cX2_addJoined 9 = .ok (.iload_n 1, 1) := by decide +kernel
theorem dX2_addJoined_10 : decode cX2_addJoined 10 = .ok (.iaload, 1) := by decide +kernel
theorem dX2_addJoined_11 : decode cX2_addJoined 11 = .ok (.isub, 1) := by decide +kernel
theorem dX2_addJoined_12 : decode cX2_addJoined 12 = .ok (.invokestatic 47, 3) := by decide +kernel
theorem dX2_addJoined_15 : decode cX2_addJoined 15 = .ok (.istore 6, 2) := by decide +kernel
theorem dX2_addJoined_17 : decode cX2_addJoined 17 = .ok (.iconst 0, 1) := by decide +kernel
theorem dX2_addJoined_18 : decode cX2_addJoined 18 = .ok (.istore 7, 2) := by decide +kernel
theorem dX2_addJoined_20 : decode cX2_addJoined 20 = .ok (.iload 7, 2) := by decide +kernel
theorem dX2_addJoined_22 : decode cX2_addJoined 22 = .ok (.iload 6, 2) := by decide +kernel
theorem dX2_addJoined_24 : decode cX2_addJoined 24 = .ok (.if_icmp .ge 44, 3) := by decide +kernel
theorem dX2_addJoined_27 : decode cX2_addJoined 27 = .ok (.aload_n 0, 1) := by decide +kernel
theorem dX2_addJoined_28 : decode cX2_addJoined 28 = .ok (.getfield 23, 3) := by decide +kernel
theorem dX2_addJoined_31 : decode cX2_addJoined 31 = .ok (.iload_n 1, 1) := by decide +kernel
theorem dX2_addJoined_32 : decode cX2_addJoined 32 = .ok (.iload 7, 2) := by decide +kernel
theorem dX2_addJoined_34 : decode cX2_addJoined 34 = .ok (.invokevirtual 51, 3) := by decide +kernel
theorem dX2_addJoined_37 : decode cX2_addJoined 37 = .ok (.istore 8, 2) := by decide +kernel
theorem dX2_addJoined_39 : decode cX2_addJoined 39 = .ok (.iload 8, 2) := by decide +kernel
theorem dX2_addJoined_41 : decode cX2_addJoined 41 = .ok (.invokestatic 55, 3) := by decide +kernel
theorem dX2_addJoined_44 : decode cX2_addJoined 44 = .ok (.ifCond .eq 18, 3) := by decide +kernel
theorem dX2_addJoined_47 : decode cX2_addJoined 47 = .ok (.aload 5, 2) := by decide +kernel
theorem dX2_addJoined_49 : decode cX2_addJoined 49 = .ok (.iload 8, 2) := by decide +kernel
theorem dX2_addJoined_51 : decode cX2_addJoined 51 = .ok (.dup2, 1) := by decide +kernel
theorem dX2_addJoined_52 : decode cX2_addJoined 52 = .ok (.laload, 1) := by decide +kernel
theorem dX2_addJoined_53 : decode cX2_addJoined 53 = .ok (.lload_n 2, 1) := by decide +kernel
theorem dX2_addJoined_54 : decode cX2_addJoined 54 = .ok (.aload 4, 2) := by decide +kernel
theorem dX2_addJoined_56 : decode cX2_addJoined 56 = .ok (.iload 7, 2) := by decide +kernel
theorem dX2_addJoined_58 : decode cX2_addJoined 58 = .ok (.laload, 1) := by decide +kernel
theorem dX2_addJoined_59 : decode cX2_addJoined 59 = .ok (.lmul, 1) := by decide +kernel
theorem dX2_addJoined_60 : decode cX2_addJoined 60 = .ok (.ladd, 1) := by decide +kernel
theorem dX2_addJoined_61 : decode cX2_addJoined 61 = .ok (.lastore, 1) := by decide +kernel
theorem dX2_addJoined_62 : decode cX2_addJoined 62 = .ok (.iinc 7 1, 3) := by decide +kernel
theorem dX2_addJoined_65 : decode cX2_addJoined 65 = .ok (.goto (-45), 3) := by decide +kernel
theorem dX2_addJoined_68 : decode cX2_addJoined 68 = .ok (.return_, 1) := by decide +kernel
theorem dX2_divideByCommon_0 : decode cX2_divideByCommon 0 = .ok (.iconst 0, 1) := by decide +kernel
theorem dX2_divideByCommon_1 : decode cX2_divideByCommon 1 = .ok (.istore_n 1, 1) := by decide +kernel
theorem dX2_divideByCommon_2 : decode cX2_divideByCommon 2 = .ok (.iload_n 1, 1) := by decide +kernel
theorem dX2_divideByCommon_3 : decode cX2_divideByCommon 3 = .ok (.bipush 30, 2) := by decide +kernel
theorem dX2_divideByCommon_5 : decode cX2_divideByCommon 5 = .ok (.if_icmp .ge 18, 3) := by decide +kernel
theorem dX2_divideByCommon_8 : decode cX2_divideByCommon 8 = .ok (.aload_n 0, 1) := by decide +kernel
theorem dX2_divideByCommon_9 : decode cX2_divideByCommon 9 = .ok (.iload_n 1, 1) := by decide +kernel
theorem dX2_divideByCommon_10 : decode cX2_divideByCommon 10 = .ok (.dup2, 1) := by decide +kernel
theorem dX2_divideByCommon_11 : decode cX2_divideByCommon 11 = .ok (.laload, 1) := by decide +kernel
theorem dX2_divideByCommon_12 : decode cX2_divideByCommon 12 = .ok (.ldc2_w 59, 3) := by decide +kernel
theorem dX2_divideByCommon_15 : decode cX2_divideByCommon 15 = .ok (.ldiv, 1) := by decide +kernel
theorem dX2_divideByCommon_16 : decode cX2_divideByCommon 16 = .ok (.lastore, 1) := by decide +kernel
theorem dX2_divideByCommon_17 : decode cX2_divideByCommon 17 = .ok (.iinc 1 1, 3) := by decide +kernel
theorem dX2_divideByCommon_20 : decode cX2_divideByCommon 20 = .ok (.goto (-18), 3) := by decide +kernel
theorem dX2_divideByCommon_23 : decode cX2_divideByCommon 23 = .ok (.return_, 1) := by decide +kernel
theorem dX2_scalarWithPower_0 : decode cX2_scalarWithPower 0 = .ok (.aload_n 2, 1) := by decide +kernel
theorem dX2_scalarWithPower_1 : decode cX2_scalarWithPower 1 = .ok (.iload_n 1, 1) := by decide +kernel
theorem dX2_scalarWithPower_2 : decode cX2_scalarWithPower 2 = .ok (.laload, 1) := by decide +kernel
theorem dX2_scalarWithPower_3 : decode cX2_scalarWithPower 3 = .ok (.aload_n 0, 1) := by decide +kernel
theorem dX2_scalarWithPower_4 : decode cX2_scalarWithPower 4 = .ok (.getfield 23, 3) := by decide +kernel
theorem dX2_scalarWithPower_7 : decode cX2_scalarWithPower 7 = .ok (.getfield 61, 3) := by decide +kernel
theorem dX2_scalarWithPower_10 : decode cX2_scalarWithPower 10 = .ok (.iload_n 1, 1) := by decide +kernel
theorem dX2_scalarWithPower_11 : decode cX2_scalarWithPower 11 = .ok (.iaload, 1) := by decide +kernel
theorem dX2_scalarWithPower_12 : decode cX2_scalarWithPower 12 = .ok (.i2l, 1) := by decide +kernel
theorem dX2_scalarWithPower_13 : decode cX2_scalarWithPower 13 = .ok (.lmul, 1) := by decide +kernel
theorem dX2_scalarWithPower_14 : decode cX2_scalarWithPower 14 = .ok (.ldc2_w 59, 3) := by decide +kernel
theorem dX2_scalarWithPower_17 : decode cX2_scalarWithPower 17 = .ok (.ldiv, 1) := by decide +kernel
theorem dX2_scalarWithPower_18 : decode cX2_scalarWithPower 18 = .ok (.lreturn, 1) := by decide +kernel
theorem dX2_stripOff_0 : decode cX2_stripOff 0 = .ok (.iconst 0, 1) := by decide +kernel
theorem dX2_stripOff_1 : decode cX2_stripOff 1 = .ok (.istore 4, 2) := by decide +kernel
theorem dX2_stripOff_3 : decode cX2_stripOff 3 = .ok (.iload 4, 2) := by decide +kernel
theorem dX2_stripOff_5 : decode cX2_stripOff 5 = .ok (.bipush 30, 2) := by decide +kernel
theorem dX2_stripOff_7 : decode cX2_stripOff 7 = .ok (.if_icmp .ge 50, 3) := by decide +kernel
theorem dX2_stripOff_10 : decode cX2_stripOff 10 = .ok (.aload_n 0, 1) := by decide +kernel
theorem dX2_stripOff_11 : decode cX2_stripOff 11 = .ok (.iload 4, 2) := by decide +kernel
theorem dX2_stripOff_13 : decode cX2_stripOff 13 = .ok (.aload_n 1, 1) := by decide +kernel
theorem dX2_stripOff_14 : decode cX2_stripOff 14 = .ok (.aload_n 2, 1) := by decide +kernel
theorem dX2_stripOff_15 : decode cX2_stripOff 15 = .ok (.invokevirtual 64, 3) := by decide +kernel
theorem dX2_stripOff_18 : decode cX2_stripOff 18 = .ok (.lstore 5, 2) := by decide +kernel
theorem dX2_stripOff_20 : decode cX2_stripOff 20 = .ok (.aload_n 0, 1) := by decide +kernel
theorem dX2_stripOff_21 : decode cX2_stripOff 21 = .ok (.getfield 23, 3) := by decide +kernel
theorem dX2_stripOff_24 : decode cX2_stripOff 24 = .ok (.getfield 61, 3) := by decide +kernel
theorem dX2_stripOff_27 : decode cX2_stripOff 27 = .ok (.iload 4, 2) := by decide +kernel
theorem dX2_stripOff_29 : decode cX2_stripOff 29 = .ok (.iaload, 1) := by decide +kernel
theorem dX2_stripOff_30 : decode cX2_stripOff 30 = .ok (.istore 7, 2) := by decide +kernel
theorem dX2_stripOff_32 : decode cX2_stripOff 32 = .ok (.aload_n 3, 1) := by decide +kernel
theorem dX2_stripOff_33 : decode cX2_stripOff 33 = .ok (.iload 4, 2) := by decide +kernel
theorem dX2_stripOff_35 : decode cX2_stripOff 35 = .ok (.iload 7, 2) := by decide +kernel
theorem dX2_stripOff_37 : decode cX2_stripOff 37 = .ok (.ifCond .le 12, 3) := by decide +kernel
theorem dX2_stripOff_40 : decode cX2_stripOff 40 = .ok (.lload 5, 2) := by decide +kernel
theorem dX2_stripOff_42 : decode cX2_stripOff 42 = .ok (.iload 7, 2) := by decide +kernel
theorem dX2_stripOff_44 : decode cX2_stripOff 44 = .ok (.i2l, 1) := by decide +kernel
theorem dX2_stripOff_45 : decode cX2_stripOff 45 = .ok (.ldiv, 1) := by decide +kernel
theorem dX2_stripOff_46 : decode cX2_stripOff 46 = .ok (.goto 4, 3) := by decide +kernel
theorem dX2_stripOff_49 : decode cX2_stripOff 49 = .ok (.lconst 0, 1) := by decide +kernel
theorem dX2_stripOff_50 : decode cX2_stripOff 50 = .ok (.lastore, 1) := by decide +kernel
theorem dX2_stripOff_51 : decode cX2_stripOff 51 = .ok (.iinc 4 1, 3) := by decide +kernel
theorem dX2_stripOff_54 : decode cX2_stripOff 54 = .ok (.goto (-51), 3) := by decide +kernel
theorem dX2_stripOff_57 : decode cX2_stripOff 57 = .ok (.return_, 1) := by decide +kernel
theorem dX2_scalarWithProduct_0 : decode cX2_scalarWithProduct 0 = .ok (.lconst 0, 1) := by decide +kernel
theorem dX2_scalarWithProduct_1 : decode cX2_scalarWithProduct 1 = .ok (.lstore 4, 2) := by decide +kernel
theorem dX2_scalarWithProduct_3 : decode cX2_scalarWithProduct 3 = .ok (.bipush 6, 2) := by decide +kernel
theorem dX2_scalarWithProduct_5 : decode cX2_scalarWithProduct 5 = .ok (.aload_n 0, 1) := by decide +kernel
theorem dX2_scalarWithProduct_6 : decode cX2_scalarWithProduct 6 = .ok (.getfield 23, 3) := by decide +kernel
theorem dX2_scalarWithProduct_9 : decode cX2_scalarWithProduct 9 = .ok (.getfield 41, 3) := by decide +kernel
theorem dX2_scalarWithProduct_12 : decode cX2_scalarWithProduct 12 = .ok (.iload_n 1, 1) := by decide +kernel
theorem dX2_scalarWithProduct_13 : decode cX2_scalarWithProduct 13 = .ok (.iaload, 1) := by decide +kernel
theorem dX2_scalarWithProduct_14 : decode cX2_scalarWithProduct 14 = .ok (.isub, 1) := by decide +kernel
theorem dX2_scalarWithProduct_15 : decode cX2_scalarWithProduct 15 = .ok (.invokestatic 47, 3) := by decide +kernel
theorem dX2_scalarWithProduct_18 : decode cX2_scalarWithProduct 18 = .ok (.istore 6, 2) := by decide +kernel
theorem dX2_scalarWithProduct_20 : decode cX2_scalarWithProduct 20 = .ok (.iconst 0, 1) := by decide +kernel
theorem dX2_scalarWithProduct_21 : decode cX2_scalarWithProduct 21 = .ok (.istore 7, 2) := by decide +kernel
theorem dX2_scalarWithProduct_23 : decode cX2_scalarWithProduct 23 = .ok (.iload 7, 2) := by decide +kernel
theorem dX2_scalarWithProduct_25 : decode cX2_scalarWithProduct 25 = .ok (.iload 6, 2) := by decide +kernel
theorem dX2_scalarWithProduct_27 : decode cX2_scalarWithProduct 27 = .ok (.if_icmp .ge 46, 3) := by decide +kernel
theorem dX2_scalarWithProduct_30 : decode cX2_scalarWithProduct 30 = .ok (.aload_n 0, 1) := by decide +kernel
theorem dX2_scalarWithProduct_31 : decode cX2_scalarWithProduct 31 = .ok (.getfield 23, 3) := by decide +kernel
theorem dX2_scalarWithProduct_34 : decode cX2_scalarWithProduct 34 = .ok (.iload_n 1, 1) := by decide +kernel
theorem dX2_scalarWithProduct_35 : decode cX2_scalarWithProduct 35 = .ok (.iload 7, 2) := by decide +kernel
theorem dX2_scalarWithProduct_37 : decode cX2_scalarWithProduct 37 = .ok (.invokevirtual 51, 3) := by decide +kernel
theorem dX2_scalarWithProduct_40 : decode cX2_scalarWithProduct 40 = .ok (.istore 8, 2) := by decide +kernel
theorem dX2_scalarWithProduct_42 : decode cX2_scalarWithProduct 42 = .ok (.iload 8, 2) := by decide +kernel
theorem dX2_scalarWithProduct_44 : decode cX2_scalarWithProduct 44 = .ok (.invokestatic 55, 3) := by decide +kernel
theorem dX2_scalarWithProduct_47 : decode cX2_scalarWithProduct 47 = .ok (.ifCond .eq 20, 3) := by decide +kernel
theorem dX2_scalarWithProduct_50 : decode cX2_scalarWithProduct 50 = .ok (.lload 4, 2) := by decide +kernel
theorem dX2_scalarWithProduct_52 : decode cX2_scalarWithProduct 52 = .ok (.aload_n 2, 1) := by decide +kernel
theorem dX2_scalarWithProduct_53 : decode cX2_scalarWithProduct 53 = .ok (.iload 7, 2) := by decide +kernel
theorem dX2_scalarWithProduct_55 : decode cX2_scalarWithProduct 55 = .ok (.laload, 1) := by decide +kernel
theorem dX2_scalarWithProduct_56 : decode cX2_scalarWithProduct 56 = .ok (.aload_n 0, 1) := by decide +kernel
theorem dX2_scalarWithProduct_57 : decode cX2_scalarWithProduct 57 = .ok (.iload 8, 2) := by decide +kernel
theorem dX2_scalarWithProduct_59 : decode cX2_scalarWithProduct 59 = .ok (.aload_n 3, 1) := by decide +kernel
theorem dX2_scalarWithProduct_60 : decode cX2_scalarWithProduct 60 = .ok (.invokevirtual 68, 3) := by decide +kernel
theorem dX2_scalarWithProduct_63 : decode cX2_scalarWithProduct 63 = .ok (.lmul, 1) := by decide +kernel
theorem dX2_scalarWithProduct_64 : decode cX2_scalarWithProduct 64 = .ok (.ladd, 1) := by decide +kernel
theorem dX2_scalarWithProduct_65 : decode cX2_scalarWithProduct 65 = .ok (.lstore 4, 2) := by decide +kernel
theorem dX2_scalarWithProduct_67 : decode cX2_scalarWithProduct 67 = .ok (.iinc 7 1, 3) := by decide +kernel
theorem dX2_scalarWithProduct_70 : decode cX2_scalarWithProduct 70 = .ok (.goto (-47), 3) := by decide +kernel
theorem dX2_scalarWithProduct_73 : decode cX2_scalarWithProduct 73 = .ok (.lload 4, 2) := by decide +kernel
theorem dX2_scalarWithProduct_75 : decode cX2_scalarWithProduct 75 = .ok (.lreturn, 1) := by decide +kernel
theorem dX2_meetWith_0 : decode cX2_meetWith 0 = .ok (.iconst 0, 1) := by decide +kernel
theorem dX2_meetWith_1 : decode cX2_meetWith 1 = .ok (.istore 4, 2) := by decide +kernel
theorem dX2_meetWith_3 : decode cX2_meetWith 3 = .ok (.iload 4, 2) := by decide +kernel
theorem dX2_meetWith_5 : decode cX2_meetWith 5 = .ok (.bipush 30, 2) := by decide +kernel
theorem dX2_meetWith_7 : decode cX2_meetWith 7 = .ok (.if_icmp .ge 25, 3) := by decide +kernel
theorem dX2_meetWith_10 : decode cX2_meetWith 10 = .ok (.aload_n 3, 1) := by decide +kernel
theorem dX2_meetWith_11 : decode cX2_meetWith 11 = .ok (.iload 4, 2) := by decide +kernel
theorem dX2_meetWith_13 : decode cX2_meetWith 13 = .ok (.aload_n 1, 1) := by decide +kernel
theorem dX2_meetWith_14 : decode cX2_meetWith 14 = .ok (.iload 4, 2) := by decide +kernel
theorem dX2_meetWith_16 : decode cX2_meetWith 16 = .ok (.laload, 1) := by decide +kernel
theorem dX2_meetWith_17 : decode cX2_meetWith 17 = .ok (.aload_n 0, 1) := by decide +kernel
theorem dX2_meetWith_18 : decode cX2_meetWith 18 = .ok (.iload 4, 2) := by decide +kernel
theorem dX2_meetWith_20 : decode cX2_meetWith 20 = .ok (.aload_n 2, 1) := by decide +kernel
theorem dX2_meetWith_21 : decode cX2_meetWith 21 = .ok (.invokevirtual 68, 3) := by decide +kernel
theorem dX2_meetWith_24 : decode cX2_meetWith 24 = .ok (.lmul, 1) := by decide +kernel
theorem dX2_meetWith_25 : decode cX2_meetWith 25 = .ok (.lastore, 1) := by decide +kernel
theorem dX2_meetWith_26 : decode cX2_meetWith 26 = .ok (.iinc 4 1, 3) := by decide +kernel
theorem dX2_meetWith_29 : decode cX2_meetWith 29 = .ok (.goto (-26), 3) := by decide +kernel
theorem dX2_meetWith_32 : decode cX2_meetWith 32 = .ok (.return_, 1) := by decide +kernel
theorem dX2_plugWith_0 : decode cX2_plugWith 0 = .ok (.iconst 1, 1) := by decide +kernel
theorem dX2_plugWith_1 : decode cX2_plugWith 1 = .ok (.istore 4, 2) := by decide +kernel
theorem dX2_plugWith_3 : decode cX2_plugWith 3 = .ok (.iload 4, 2) := by decide +kernel
theorem dX2_plugWith_5 : decode cX2_plugWith 5 = .ok (.bipush 6, 2) := by decide +kernel
theorem dX2_plugWith_7 : decode cX2_plugWith 7 = .ok (.if_icmp .gt 23, 3) := by decide +kernel
theorem dX2_plugWith_10 : decode cX2_plugWith 10 = .ok (.aload_n 0, 1) := by decide +kernel
theorem dX2_plugWith_11 : decode cX2_plugWith 11 = .ok (.aload_n 2, 1) := by decide +kernel
theorem dX2_plugWith_12 : decode cX2_plugWith 12 = .ok (.iload 4, 2) := by decide +kernel
theorem dX2_plugWith_14 : decode cX2_plugWith 14 = .ok (.aload_n 0, 1) := by decide +kernel
theorem dX2_plugWith_15 : decode cX2_plugWith 15 = .ok (.getfield 11, 3) := by decide +kernel
theorem dX2_plugWith_18 : decode cX2_plugWith 18 = .ok (.iload 4, 2) := by decide +kernel
theorem dX2_plugWith_20 : decode cX2_plugWith 20 = .ok (.aaload, 1) := by decide +kernel
theorem dX2_plugWith_21 : decode cX2_plugWith 21 = .ok (.invokevirtual 72, 3) := by decide +kernel
theorem dX2_plugWith_24 : decode cX2_plugWith 24 = .ok (.iinc 4 1, 3) := by decide +kernel
theorem dX2_plugWith_27 : decode cX2_plugWith 27 = .ok (.goto (-24), 3) := by decide +kernel
theorem dX2_plugWith_30 : decode cX2_plugWith 30 = .ok (.aload_n 3, 1) := by decide +kernel
theorem dX2_plugWith_31 : decode cX2_plugWith 31 = .ok (.lconst 0, 1) := by decide +kernel
theorem dX2_plugWith_32 : decode cX2_plugWith 32 = .ok (.invokestatic 27, 3) := by decide +kernel
theorem dX2_plugWith_35 : decode cX2_plugWith 35 = .ok (.iconst 0, 1) := by decide +kernel
theorem dX2_plugWith_36 : decode cX2_plugWith 36 = .ok (.istore 4, 2) := by decide +kernel
theorem dX2_plugWith_38 : decode cX2_plugWith 38 = .ok (.iload 4, 2) := by decide +kernel
theorem dX2_plugWith_40 : decode cX2_plugWith 40 = .ok (.bipush 30, 2) := by decide +kernel
theorem dX2_plugWith_42 : decode cX2_plugWith 42 = .ok (.if_icmp .ge 59, 3) := by decide +kernel
theorem dX2_plugWith_45 : decode cX2_plugWith 45 = .ok (.aload_n 1, 1) := by decide +kernel
theorem dX2_plugWith_46 : decode cX2_plugWith 46 = .ok (.iload 4, 2) := by decide +kernel
theorem dX2_plugWith_48 : decode cX2_plugWith 48 = .ok (.laload, 1) := by decide +kernel
theorem dX2_plugWith_49 : decode cX2_plugWith 49 = .ok (.lconst 0, 1) := by decide +kernel
theorem dX2_plugWith_50 : decode cX2_plugWith 50 = .ok (.lcmp, 1) := by decide +kernel
theorem dX2_plugWith_51 : decode cX2_plugWith 51 = .ok (.ifCond .eq 44, 3) := by decide +kernel
theorem dX2_plugWith_54 : decode cX2_plugWith 54 = .ok (.aload_n 0, 1) := by decide +kernel
theorem dX2_plugWith_55 : decode cX2_plugWith 55 = .ok (.iload 4, 2) := by decide +kernel
theorem dX2_plugWith_57 : decode cX2_plugWith 57 = .ok (.invokevirtual 76, 3) := by decide +kernel
theorem dX2_plugWith_60 : decode cX2_plugWith 60 = .ok (.iconst 0, 1) := by decide +kernel
theorem dX2_plugWith_61 : decode cX2_plugWith 61 = .ok (.istore 5, 2) := by decide +kernel
theorem dX2_plugWith_63 : decode cX2_plugWith 63 = .ok (.iload 5, 2) := by decide +kernel
theorem dX2_plugWith_65 : decode cX2_plugWith 65 = .ok (.bipush 30, 2) := by decide +kernel
theorem dX2_plugWith_67 : decode cX2_plugWith 67 = .ok (.if_icmp .ge 28, 3) := by decide +kernel
theorem dX2_plugWith_70 : decode cX2_plugWith 70 = .ok (.aload_n 3, 1) := by decide +kernel
theorem dX2_plugWith_71 : decode cX2_plugWith 71 = .ok (.iload 5, 2) := by decide +kernel
theorem dX2_plugWith_73 : decode cX2_plugWith 73 = .ok (.dup2, 1) := by decide +kernel
theorem dX2_plugWith_74 : decode cX2_plugWith 74 = .ok (.laload, 1) := by decide +kernel
theorem dX2_plugWith_75 : decode cX2_plugWith 75 = .ok (.aload_n 1, 1) := by decide +kernel
theorem dX2_plugWith_76 : decode cX2_plugWith 76 = .ok (.iload 4, 2) := by decide +kernel
theorem dX2_plugWith_78 : decode cX2_plugWith 78 = .ok (.laload, 1) := by decide +kernel
theorem dX2_plugWith_79 : decode cX2_plugWith 79 = .ok (.aload_n 0, 1) := by decide +kernel
theorem dX2_plugWith_80 : decode cX2_plugWith 80 = .ok (.getfield 16, 3) := by decide +kernel
theorem dX2_plugWith_83 : decode cX2_plugWith 83 = .ok (.iload 5, 2) := by decide +kernel
theorem dX2_plugWith_85 : decode cX2_plugWith 85 = .ok (.laload, 1) := by decide +kernel
theorem dX2_plugWith_86 : decode cX2_plugWith 86 = .ok (.lmul, 1) := by decide +kernel
theorem dX2_plugWith_87 : decode cX2_plugWith 87 = .ok (.ladd, 1) := by decide +kernel
theorem dX2_plugWith_88 : decode cX2_plugWith 88 = .ok (.lastore, 1) := by decide +kernel
theorem dX2_plugWith_89 : decode cX2_plugWith 89 = .ok (.iinc 5 1, 3) := by decide +kernel
theorem dX2_plugWith_92 : decode cX2_plugWith 92 = .ok (.goto (-29), 3) := by decide +kernel
theorem dX2_plugWith_95 : decode cX2_plugWith 95 = .ok (.iinc 4 1, 3) := by decide +kernel
theorem dX2_plugWith_98 : decode cX2_plugWith 98 = .ok (.goto (-60), 3) := by decide +kernel
theorem dX2_plugWith_101 : decode cX2_plugWith 101 = .ok (.aload_n 3, 1) := by decide +kernel
theorem dX2_plugWith_102 : decode cX2_plugWith 102 = .ok (.invokestatic 37, 3) := by decide +kernel
theorem dX2_plugWith_105 : decode cX2_plugWith 105 = .ok (.return_, 1) := by decide +kernel
theorem dX2_plugPower_0 : decode cX2_plugPower 0 = .ok (.aload_n 0, 1) := by decide +kernel
theorem dX2_plugPower_1 : decode cX2_plugPower 1 = .ok (.getfield 16, 3) := by decide +kernel
theorem dX2_plugPower_4 : decode cX2_plugPower 4 = .ok (.lconst 0, 1) := by decide +kernel
theorem dX2_plugPower_5 : decode cX2_plugPower 5 = .ok (.invokestatic 27, 3) := by decide +kernel
theorem dX2_plugPower_8 : decode cX2_plugPower 8 = .ok (.aload_n 0, 1) := by decide +kernel
theorem dX2_plugPower_9 : decode cX2_plugPower 9 = .ok (.getfield 16, 3) := by decide +kernel
theorem dX2_plugPower_12 : decode cX2_plugPower 12 = .ok (.iconst 0, 1) := by decide +kernel
theorem dX2_plugPower_13 : decode cX2_plugPower 13 = .ok (.ldc2_w 59, 3) := by decide +kernel
theorem dX2_plugPower_16 : decode cX2_plugPower 16 = .ok (.lastore, 1) := by decide +kernel
theorem dX2_plugPower_17 : decode cX2_plugPower 17 = .ok (.iconst 0, 1) := by decide +kernel
theorem dX2_plugPower_18 : decode cX2_plugPower 18 = .ok (.istore_n 2, 1) := by decide +kernel
theorem dX2_plugPower_19 : decode cX2_plugPower 19 = .ok (.iload_n 2, 1) := by decide +kernel
theorem dX2_plugPower_20 : decode cX2_plugPower 20 = .ok (.aload_n 0, 1) := by decide +kernel
theorem dX2_plugPower_21 : decode cX2_plugPower 21 = .ok (.getfield 23, 3) := by decide +kernel
theorem dX2_plugPower_24 : decode cX2_plugPower 24 = .ok (.getfield 80, 3) := by decide +kernel
theorem dX2_plugPower_27 : decode cX2_plugPower 27 = .ok (.iload_n 1, 1) := by decide +kernel
theorem dX2_plugPower_28 : decode cX2_plugPower 28 = .ok (.iaload, 1) := by decide +kernel
theorem dX2_plugPower_29 : decode cX2_plugPower 29 = .ok (.if_icmp .ge 62, 3) := by decide +kernel
theorem dX2_plugPower_32 : decode cX2_plugPower 32 = .ok (.aload_n 0, 1) := by decide +kernel
theorem dX2_plugPower_33 : decode cX2_plugPower 33 = .ok (.getfield 23, 3) := by decide +kernel
theorem dX2_plugPower_36 : decode cX2_plugPower 36 = .ok (.iload_n 1, 1) := by decide +kernel
theorem dX2_plugPower_37 : decode cX2_plugPower 37 = .ok (.iload_n 2, 1) := by decide +kernel
theorem dX2_plugPower_38 : decode cX2_plugPower 38 = .ok (.invokevirtual 83, 3) := by decide +kernel
theorem dX2_plugPower_41 : decode cX2_plugPower 41 = .ok (.istore_n 3, 1) := by decide +kernel
theorem dX2_plugPower_42 : decode cX2_plugPower 42 = .ok (.iload_n 3, 1) := by decide +kernel
theorem dX2_plugPower_43 : decode cX2_plugPower 43 = .ok (.ifCond .le 42, 3) := by decide +kernel
theorem dX2_plugPower_46 : decode cX2_plugPower 46 = .ok (.iload_n 3, 1) := by decide +kernel
theorem dX2_plugPower_47 : decode cX2_plugPower 47 = .ok (.bipush 6, 2) := by decide +kernel
theorem dX2_plugPower_49 : decode cX2_plugPower 49 = .ok (.if_icmp .gt 36, 3) := by decide +kernel
theorem dX2_plugPower_52 : decode cX2_plugPower 52 = .ok (.aload_n 0, 1) := by decide +kernel
theorem dX2_plugPower_53 : decode cX2_plugPower 53 = .ok (.aload_n 0, 1) := by decide +kernel
theorem dX2_plugPower_54 : decode cX2_plugPower 54 = .ok (.getfield 11, 3) := by decide +kernel
theorem dX2_plugPower_57 : decode cX2_plugPower 57 = .ok (.iload_n 3, 1) := by decide +kernel
theorem dX2_plugPower_58 : decode cX2_plugPower 58 = .ok (.aaload, 1) := by decide +kernel
theorem dX2_plugPower_59 : decode cX2_plugPower 59 = .ok (.aload_n 0, 1) := by decide +kernel
theorem dX2_plugPower_60 : decode cX2_plugPower 60 = .ok (.getfield 16, 3) := by decide +kernel
theorem dX2_plugPower_63 : decode cX2_plugPower 63 = .ok (.aload_n 0, 1) := by decide +kernel
theorem dX2_plugPower_64 : decode cX2_plugPower 64 = .ok (.getfield 20, 3) := by decide +kernel
theorem dX2_plugPower_67 : decode cX2_plugPower 67 = .ok (.invokevirtual 86, 3) := by decide +kernel
theorem dX2_plugPower_70 : decode cX2_plugPower 70 = .ok (.aload_n 0, 1) := by decide +kernel
theorem dX2_plugPower_71 : decode cX2_plugPower 71 = .ok (.getfield 20, 3) := by decide +kernel
theorem dX2_plugPower_74 : decode cX2_plugPower 74 = .ok (.iconst 0, 1) := by decide +kernel
theorem dX2_plugPower_75 : decode cX2_plugPower 75 = .ok (.aload_n 0, 1) := by decide +kernel
theorem dX2_plugPower_76 : decode cX2_plugPower 76 = .ok (.getfield 16, 3) := by decide +kernel
theorem dX2_plugPower_79 : decode cX2_plugPower 79 = .ok (.iconst 0, 1) := by decide +kernel
theorem dX2_plugPower_80 : decode cX2_plugPower 80 = .ok (.bipush 30, 2) := by decide +kernel
theorem dX2_plugPower_82 : decode cX2_plugPower 82 = .ok (.invokestatic 90, 3) := by decide +kernel
theorem dX2_plugPower_85 : decode cX2_plugPower 85 = .ok (.iinc 2 1, 3) := by decide +kernel
theorem dX2_plugPower_88 : decode cX2_plugPower 88 = .ok (.goto (-69), 3) := by decide +kernel
theorem dX2_plugPower_91 : decode cX2_plugPower 91 = .ok (.return_, 1) := by decide +kernel
theorem dX2_stretch_0 : decode cX2_stretch 0 = .ok (.aload_n 3, 1) := by decide +kernel
theorem dX2_stretch_1 : decode cX2_stretch 1 = .ok (.lconst 0, 1) := by decide +kernel
theorem dX2_stretch_2 : decode cX2_stretch 2 = .ok (.invokestatic 27, 3) := by decide +kernel
theorem dX2_stretch_5 : decode cX2_stretch 5 = .ok (.iconst 0, 1) := by decide +kernel
theorem dX2_stretch_6 : decode cX2_stretch 6 = .ok (.istore 4, 2) := by decide +kernel
theorem dX2_stretch_8 : decode cX2_stretch 8 = .ok (.iload 4, 2) := by decide +kernel
theorem dX2_stretch_10 : decode cX2_stretch 10 = .ok (.bipush 30, 2) := by decide +kernel
theorem dX2_stretch_12 : decode cX2_stretch 12 = .ok (.if_icmp .ge 37, 3) := by decide +kernel
theorem dX2_stretch_15 : decode cX2_stretch 15 = .ok (.aload_n 0, 1) := by decide +kernel
theorem dX2_stretch_16 : decode cX2_stretch 16 = .ok (.getfield 23, 3) := by decide +kernel
theorem dX2_stretch_19 : decode cX2_stretch 19 = .ok (.iload 4, 2) := by decide +kernel
theorem dX2_stretch_21 : decode cX2_stretch 21 = .ok (.iload_n 2, 1) := by decide +kernel
theorem dX2_stretch_22 : decode cX2_stretch 22 = .ok (.invokevirtual 96, 3) := by decide +kernel
theorem dX2_stretch_25 : decode cX2_stretch 25 = .ok (.istore 5, 2) := by decide +kernel
theorem dX2_stretch_27 : decode cX2_stretch 27 = .ok (.iload 5, 2) := by decide +kernel
theorem dX2_stretch_29 : decode cX2_stretch 29 = .ok (.invokestatic 55, 3) := by decide +kernel
theorem dX2_stretch_32 : decode cX2_stretch 32 = .ok (.ifCond .eq 11, 3) := by decide +kernel
theorem dX2_stretch_35 : decode cX2_stretch 35 = .ok (.aload_n 3, 1) := by decide +kernel
theorem dX2_stretch_36 : decode cX2_stretch 36 = .ok (.iload 5, 2) := by decide +kernel
theorem dX2_stretch_38 : decode cX2_stretch 38 = .ok (.aload_n 1, 1) := by decide +kernel
theorem dX2_stretch_39 : decode cX2_stretch 39 = .ok (.iload 4, 2) := by decide +kernel
theorem dX2_stretch_41 : decode cX2_stretch 41 = .ok (.laload, 1) := by decide +kernel
theorem dX2_stretch_42 : decode cX2_stretch 42 = .ok (.lastore, 1) := by decide +kernel
theorem dX2_stretch_43 : decode cX2_stretch 43 = .ok (.iinc 4 1, 3) := by decide +kernel
theorem dX2_stretch_46 : decode cX2_stretch 46 = .ok (.goto (-38), 3) := by decide +kernel
theorem dX2_stretch_49 : decode cX2_stretch 49 = .ok (.return_, 1) := by decide +kernel
theorem dX2_valueAt_0 : decode cX2_valueAt 0 = .ok (.lconst 0, 1) := by decide +kernel
theorem dX2_valueAt_1 : decode cX2_valueAt 1 = .ok (.lstore 8, 2) := by decide +kernel
theorem dX2_valueAt_3 : decode cX2_valueAt 3 = .ok (.iconst 0, 1) := by decide +kernel
theorem dX2_valueAt_4 : decode cX2_valueAt 4 = .ok (.istore 10, 2) := by decide +kernel
theorem dX2_valueAt_6 : decode cX2_valueAt 6 = .ok (.iload 10, 2) := by decide +kernel
theorem dX2_valueAt_8 : decode cX2_valueAt 8 = .ok (.bipush 6, 2) := by decide +kernel
theorem dX2_valueAt_10 : decode cX2_valueAt 10 = .ok (.if_icmp .gt 137, 3) := by decide +kernel
theorem dX2_valueAt_13 : decode cX2_valueAt 13 = .ok (.iconst 0, 1) := by decide +kernel
theorem dX2_valueAt_14 : decode cX2_valueAt 14 = .ok (.istore 11, 2) := by decide +kernel
theorem dX2_valueAt_16 : decode cX2_valueAt 16 = .ok (.iload 10, 2) := by decide +kernel
theorem dX2_valueAt_18 : decode cX2_valueAt 18 = .ok (.iload 11, 2) := by decide +kernel
theorem dX2_valueAt_20 : decode cX2_valueAt 20 = .ok (.iadd, 1) := by decide +kernel
theorem dX2_valueAt_21 : decode cX2_valueAt 21 = .ok (.bipush 6, 2) := by decide +kernel
theorem dX2_valueAt_23 : decode cX2_valueAt 23 = .ok (.if_icmp .gt 118, 3) := by decide +kernel
theorem dX2_valueAt_26 : decode cX2_valueAt 26 = .ok (.iconst 0, 1) := by decide +kernel
theorem dX2_valueAt_27 : decode cX2_valueAt 27 = .ok (.istore 12, 2) := by decide +kernel
theorem dX2_valueAt_29 : decode cX2_valueAt 29 = .ok (.iload 10, 2) := by decide +kernel
theorem dX2_valueAt_31 : decode cX2_valueAt 31 = .ok (.iload 11, 2) := by decide +kernel
theorem dX2_valueAt_33 : decode cX2_valueAt 33 = .ok (.iadd, 1) := by decide +kernel
theorem dX2_valueAt_34 : decode cX2_valueAt 34 = .ok (.iload 12, 2) := by decide +kernel
theorem dX2_valueAt_36 : decode cX2_valueAt 36 = .ok (.iadd, 1) := by decide +kernel
theorem dX2_valueAt_37 : decode cX2_valueAt 37 = .ok (.bipush 6, 2) := by decide +kernel
theorem dX2_valueAt_39 : decode cX2_valueAt 39 = .ok (.if_icmp .gt 96, 3) := by decide +kernel
theorem dX2_valueAt_42 : decode cX2_valueAt 42 = .ok (.iload 10, 2) := by decide +kernel
theorem dX2_valueAt_44 : decode cX2_valueAt 44 = .ok (.invokestatic 99, 3) := by decide +kernel
theorem dX2_valueAt_47 : decode cX2_valueAt 47 = .ok (.iload 11, 2) := by decide +kernel
theorem dX2_valueAt_49 : decode cX2_valueAt 49 = .ok (.invokestatic 99, 3) := by decide +kernel
theorem dX2_valueAt_52 : decode cX2_valueAt 52 = .ok (.iadd, 1) := by decide +kernel
theorem dX2_valueAt_53 : decode cX2_valueAt 53 = .ok (.iload 12, 2) := by decide +kernel
theorem dX2_valueAt_55 : decode cX2_valueAt 55 = .ok (.invokestatic 99, 3) := by decide +kernel
theorem dX2_valueAt_58 : decode cX2_valueAt 58 = .ok (.iadd, 1) := by decide +kernel
theorem dX2_valueAt_59 : decode cX2_valueAt 59 = .ok (.istore 13, 2) := by decide +kernel
theorem dX2_valueAt_61 : decode cX2_valueAt 61 = .ok (.aload_n 0, 1) := by decide +kernel
theorem dX2_valueAt_62 : decode cX2_valueAt 62 = .ok (.getfield 23, 3) := by decide +kernel
theorem dX2_valueAt_65 : decode cX2_valueAt 65 = .ok (.iload 13, 2) := by decide +kernel
theorem dX2_valueAt_67 : decode cX2_valueAt 67 = .ok (.iload 10, 2) := by decide +kernel
theorem dX2_valueAt_69 : decode cX2_valueAt 69 = .ok (.iload 11, 2) := by decide +kernel
theorem dX2_valueAt_71 : decode cX2_valueAt 71 = .ok (.iadd, 1) := by decide +kernel
theorem dX2_valueAt_72 : decode cX2_valueAt 72 = .ok (.iload 12, 2) := by decide +kernel
theorem dX2_valueAt_74 : decode cX2_valueAt 74 = .ok (.iadd, 1) := by decide +kernel
theorem dX2_valueAt_75 : decode cX2_valueAt 75 = .ok (.invokevirtual 102, 3) := by decide +kernel
theorem dX2_valueAt_78 : decode cX2_valueAt 78 = .ok (.istore 14, 2) := by decide +kernel
theorem dX2_valueAt_80 : decode cX2_valueAt 80 = .ok (.iload 14, 2) := by decide +kernel
theorem dX2_valueAt_82 : decode cX2_valueAt 82 = .ok (.invokestatic 55, 3) := by decide +kernel
theorem dX2_valueAt_85 : decode cX2_valueAt 85 = .ok (.ifCond .eq 44, 3) := by decide +kernel
theorem dX2_valueAt_88 : decode cX2_valueAt 88 = .ok (.aload_n 1, 1) := by decide +kernel
theorem dX2_valueAt_89 : decode cX2_valueAt 89 = .ok (.iload 14, 2) := by decide +kernel
theorem dX2_valueAt_91 : decode cX2_valueAt 91 = .ok (.laload, 1) := by decide +kernel
theorem dX2_valueAt_92 : decode cX2_valueAt 92 = .ok (.lconst 0, 1) := by decide +kernel
theorem dX2_valueAt_93 : decode cX2_valueAt 93 = .ok (.lcmp, 1) := by decide +kernel
theorem dX2_valueAt_94 : decode cX2_valueAt 94 = .ok (.ifCond .eq 35, 3) := by decide +kernel
theorem dX2_valueAt_97 : decode cX2_valueAt 97 = .ok (.lload 8, 2) := by decide +kernel
theorem dX2_valueAt_99 : decode cX2_valueAt 99 = .ok (.aload_n 1, 1) := by decide +kernel
theorem dX2_valueAt_100 : decode cX2_valueAt 100 = .ok (.iload 14, 2) := by decide +kernel
theorem dX2_valueAt_102 : decode cX2_valueAt 102 = .ok (.laload, 1) := by decide +kernel
theorem dX2_valueAt_103 : decode cX2_valueAt 103 = .ok (.lload_n 2, 1) := by decide +kernel
theorem dX2_valueAt_104 : decode cX2_valueAt 104 = .ok (.iload 10, 2) := by decide +kernel
theorem dX2_valueAt_106 : decode cX2_valueAt 106 = .ok (.invokestatic 105, 3) := by decide +kernel
theorem dX2_valueAt_109 : decode cX2_valueAt 109 = .ok (.lmul, 1) := by decide +kernel
theorem dX2_valueAt_110 : decode cX2_valueAt 110 = .ok (.lload 4, 2) := by decide +kernel
theorem dX2_valueAt_112 : decode cX2_valueAt 112 = .ok (.iload 11, 2) := by decide +kernel
theorem dX2_valueAt_114 : decode cX2_valueAt 114 = .ok (.invokestatic 105, 3) := by decide +kernel
theorem dX2_valueAt_117 : decode cX2_valueAt 117 = .ok (.lmul, 1) := by decide +kernel
theorem dX2_valueAt_118 : decode cX2_valueAt 118 = .ok (.lload 6, 2) := by decide +kernel
theorem dX2_valueAt_120 : decode cX2_valueAt 120 = .ok (.iload 12, 2) := by decide +kernel
theorem dX2_valueAt_122 : decode cX2_valueAt 122 = .ok (.invokestatic 105, 3) := by decide +kernel
theorem dX2_valueAt_125 : decode cX2_valueAt 125 = .ok (.lmul, 1) := by decide +kernel
theorem dX2_valueAt_126 : decode cX2_valueAt 126 = .ok (.ladd, 1) := by decide +kernel
theorem dX2_valueAt_127 : decode cX2_valueAt 127 = .ok (.lstore 8, 2) := by decide +kernel
theorem dX2_valueAt_129 : decode cX2_valueAt 129 = .ok (.iinc 12 1, 3) := by decide +kernel
theorem dX2_valueAt_132 : decode cX2_valueAt 132 = .ok (.goto (-103), 3) := by decide +kernel
theorem dX2_valueAt_135 : decode cX2_valueAt 135 = .ok (.iinc 11 1, 3) := by decide +kernel
theorem dX2_valueAt_138 : decode cX2_valueAt 138 = .ok (.goto (-122), 3) := by decide +kernel
theorem dX2_valueAt_141 : decode cX2_valueAt 141 = .ok (.iinc 10 1, 3) := by decide +kernel
theorem dX2_valueAt_144 : decode cX2_valueAt 144 = .ok (.goto (-138), 3) := by decide +kernel
theorem dX2_valueAt_147 : decode cX2_valueAt 147 = .ok (.lload 8, 2) := by decide +kernel
theorem dX2_valueAt_149 : decode cX2_valueAt 149 = .ok (.lreturn, 1) := by decide +kernel
theorem dX2_powerOf_0 : decode cX2_powerOf 0 = .ok (.lconst 1, 1) := by decide +kernel
theorem dX2_powerOf_1 : decode cX2_powerOf 1 = .ok (.lstore_n 3, 1) := by decide +kernel
theorem dX2_powerOf_2 : decode cX2_powerOf 2 = .ok (.iconst 0, 1) := by decide +kernel
theorem dX2_powerOf_3 : decode cX2_powerOf 3 = .ok (.istore 5, 2) := by decide +kernel
theorem dX2_powerOf_5 : decode cX2_powerOf 5 = .ok (.iload 5, 2) := by decide +kernel
theorem dX2_powerOf_7 : decode cX2_powerOf 7 = .ok (.iload_n 2, 1) := by decide +kernel
theorem dX2_powerOf_8 : decode cX2_powerOf 8 = .ok (.if_icmp .ge 13, 3) := by decide +kernel
theorem dX2_powerOf_11 : decode cX2_powerOf 11 = .ok (.lload_n 3, 1) := by decide +kernel
theorem dX2_powerOf_12 : decode cX2_powerOf 12 = .ok (.lload_n 0, 1) := by decide +kernel
theorem dX2_powerOf_13 : decode cX2_powerOf 13 = .ok (.lmul, 1) := by decide +kernel
theorem dX2_powerOf_14 : decode cX2_powerOf 14 = .ok (.lstore_n 3, 1) := by decide +kernel
theorem dX2_powerOf_15 : decode cX2_powerOf 15 = .ok (.iinc 5 1, 3) := by decide +kernel
theorem dX2_powerOf_18 : decode cX2_powerOf 18 = .ok (.goto (-13), 3) := by decide +kernel
theorem dX2_powerOf_21 : decode cX2_powerOf 21 = .ok (.lload_n 3, 1) := by decide +kernel
theorem dX2_powerOf_22 : decode cX2_powerOf 22 = .ok (.lreturn, 1) := by decide +kernel
theorem dJ7_fill_d0a16_0 : decode cJ7_fill_d0a16 0 = .ok (.iconst 0, 1) := by decide +kernel
theorem dJ7_fill_d0a16_1 : decode cJ7_fill_d0a16 1 = .ok (.istore_n 3, 1) := by decide +kernel
theorem dJ7_fill_d0a16_2 : decode cJ7_fill_d0a16 2 = .ok (.aload_n 0, 1) := by decide +kernel
theorem dJ7_fill_d0a16_3 : decode cJ7_fill_d0a16 3 = .ok (.arraylength, 1) := by decide +kernel
theorem dJ7_fill_d0a16_4 : decode cJ7_fill_d0a16 4 = .ok (.istore 4, 2) := by decide +kernel
theorem dJ7_fill_d0a16_6 : decode cJ7_fill_d0a16 6 = .ok (.iload_n 3, 1) := by decide +kernel
theorem dJ7_fill_d0a16_7 : decode cJ7_fill_d0a16 7 = .ok (.iload 4, 2) := by decide +kernel
theorem dJ7_fill_d0a16_9 : decode cJ7_fill_d0a16 9 = .ok (.if_icmp .ge 13, 3) := by decide +kernel
theorem dJ7_fill_d0a16_12 : decode cJ7_fill_d0a16 12 = .ok (.aload_n 0, 1) := by decide +kernel
theorem dJ7_fill_d0a16_13 : decode cJ7_fill_d0a16 13 = .ok (.iload_n 3, 1) := by decide +kernel
theorem dJ7_fill_d0a16_14 : decode cJ7_fill_d0a16 14 = .ok (.lload_n 1, 1) := by decide +kernel
theorem dJ7_fill_d0a16_15 : decode cJ7_fill_d0a16 15 = .ok (.lastore, 1) := by decide +kernel
theorem dJ7_fill_d0a16_16 : decode cJ7_fill_d0a16 16 = .ok (.iinc 3 1, 3) := by decide +kernel
theorem dJ7_fill_d0a16_19 : decode cJ7_fill_d0a16 19 = .ok (.goto (-13), 3) := by decide +kernel
theorem dJ7_fill_d0a16_22 : decode cJ7_fill_d0a16 22 = .ok (.return_, 1) := by decide +kernel
theorem dJ9_abs_067f4_0 : decode cJ9_abs_067f4 0 = .ok (.lload_n 0, 1) := by decide +kernel
theorem dJ9_abs_067f4_1 : decode cJ9_abs_067f4 1 = .ok (.lconst 0, 1) := by decide +kernel
theorem dJ9_abs_067f4_2 : decode cJ9_abs_067f4 2 = .ok (.lcmp, 1) := by decide +kernel
theorem dJ9_abs_067f4_3 : decode cJ9_abs_067f4 3 = .ok (.ifCond .ge 8, 3) := by decide +kernel
theorem dJ9_abs_067f4_6 : decode cJ9_abs_067f4 6 = .ok (.lload_n 0, 1) := by decide +kernel
theorem dJ9_abs_067f4_7 : decode cJ9_abs_067f4 7 = .ok (.lneg, 1) := by decide +kernel
theorem dJ9_abs_067f4_8 : decode cJ9_abs_067f4 8 = .ok (.goto 4, 3) := by decide +kernel
theorem dJ9_abs_067f4_11 : decode cJ9_abs_067f4 11 = .ok (.lload_n 0, 1) := by decide +kernel
theorem dJ9_abs_067f4_12 : decode cJ9_abs_067f4 12 = .ok (.lreturn, 1) := by decide +kernel
theorem dJ9_min_7cf53_0 : decode cJ9_min_7cf53 0 = .ok (.iload_n 0, 1) := by decide +kernel
theorem dJ9_min_7cf53_1 : decode cJ9_min_7cf53 1 = .ok (.iload_n 1, 1) := by decide +kernel
theorem dJ9_min_7cf53_2 : decode cJ9_min_7cf53 2 = .ok (.if_icmp .gt 7, 3) := by decide +kernel
theorem dJ9_min_7cf53_5 : decode cJ9_min_7cf53 5 = .ok (.iload_n 0, 1) := by decide +kernel
theorem dJ9_min_7cf53_6 : decode cJ9_min_7cf53 6 = .ok (.goto 4, 3) := by decide +kernel
theorem dJ9_min_7cf53_9 : decode cJ9_min_7cf53 9 = .ok (.iload_n 1, 1) := by decide +kernel
theorem dJ9_min_7cf53_10 : decode cJ9_min_7cf53 10 = .ok (.ireturn, 1) := by decide +kernel
end
section
theorem dX3_init_0 : decode cX3_init 0 = .ok (.aload_n 0, 1) := by decide +kernel
theorem dX3_init_1 : decode cX3_init 1 = .ok (.invokespecial 1, 3) := by decide +kernel
theorem dX3_init_4 : decode cX3_init 4 = .ok (.aload_n 0, 1) := by decide +kernel
theorem dX3_init_5 : decode cX3_init 5 = .ok (.new 7, 3) := by decide +kernel
theorem dX3_init_8 : decode cX3_init 8 = .ok (.dup, 1) := by decide +kernel
theorem dX3_init_9 : decode cX3_init 9 = .ok (.invokespecial 9, 3) := by decide +kernel
theorem dX3_init_12 : decode cX3_init 12 = .ok (.putfield 10, 3) := by decide +kernel
theorem dX3_init_15 : decode cX3_init 15 = .ok (.aload_n 0, 1) := by decide +kernel
theorem dX3_init_16 : decode cX3_init 16 = .ok (.new 16, 3) := by decide +kernel
theorem dX3_init_19 : decode cX3_init 19 = .ok (.dup, 1) := by decide +kernel
theorem dX3_init_20 : decode cX3_init 20 = .ok (.aload_n 0, 1) := by decide +kernel
theorem dX3_init_21 : decode cX3_init 21 = .ok (.getfield 10, 3) := by decide +kernel
theorem dX3_init_24 : decode cX3_init 24 = .ok (.invokespecial 18, 3) := by decide +kernel
theorem dX3_init_27 : decode cX3_init 27 = .ok (.putfield 21, 3) := by decide +kernel
theorem dX3_init_30 : decode cX3_init 30 = .ok (.aload_n 0, 1) := by decide +kernel
theorem dX3_init_31 : decode cX3_init 31 = .ok (.new 25, 3) := by decide +kernel
theorem dX3_init_34 : decode cX3_init 34 = .ok (.dup, 1) := by decide +kernel
theorem dX3_init_35 : decode cX3_init 35 = .ok (.aload_n 0, 1) := by decide +kernel
theorem dX3_init_36 : decode cX3_init 36 = .ok (.getfield 10, 3) := by decide +kernel
theorem dX3_init_39 : decode cX3_init 39 = .ok (.invokespecial 27, 3) := by decide +kernel
theorem dX3_init_42 : decode cX3_init 42 = .ok (.putfield 28, 3) := by decide +kernel
theorem dX3_init_45 : decode cX3_init 45 = .ok (.aload_n 0, 1) := by decide +kernel
theorem dX3_init_46 : decode cX3_init 46 = .ok (.bipush 8, 2) := by decide +kernel
theorem dX3_init_48 : decode cX3_init 48 = .ok (.bipush 30, 2) := by decide +kernel
theorem dX3_init_50 : decode cX3_init 50 = .ok (.multianewarray 32 2, 4) := by decide +kernel
theorem dX3_init_54 : decode cX3_init 54 = .ok (.putfield 34, 3) := by decide +kernel
theorem dX3_init_57 : decode cX3_init 57 = .ok (.aload_n 0, 1) := by decide +kernel
theorem dX3_init_58 : decode cX3_init 58 = .ok (.bipush 16, 2) := by decide +kernel
theorem dX3_init_60 : decode cX3_init 60 = .ok (.bipush 30, 2) := by decide +kernel
theorem dX3_init_62 : decode cX3_init 62 = .ok (.multianewarray 32 2, 4) := by decide +kernel
theorem dX3_init_66 : decode cX3_init 66 = .ok (.putfield 37, 3) := by decide +kernel
theorem dX3_init_69 : decode cX3_init 69 = .ok (.aload_n 0, 1) := by decide +kernel
theorem dX3_init_70 : decode cX3_init 70 = .ok (.iconst 2, 1) := by decide +kernel
theorem dX3_init_71 : decode cX3_init 71 = .ok (.newarray .boolean, 2) := by decide +kernel
theorem dX3_init_73 : decode cX3_init 73 = .ok (.putfield 40, 3) := by decide +kernel
theorem dX3_init_76 : decode cX3_init 76 = .ok (.aload_n 0, 1) := by decide +kernel
theorem dX3_init_77 : decode cX3_init 77 = .ok (.bipush 30, 2) := by decide +kernel
theorem dX3_init_79 : decode cX3_init 79 = .ok (.newarray .long, 2) := by decide +kernel
theorem dX3_init_81 : decode cX3_init 81 = .ok (.putfield 44, 3) := by decide +kernel
theorem dX3_init_84 : decode cX3_init 84 = .ok (.aload_n 0, 1) := by decide +kernel
theorem dX3_init_85 : decode cX3_init 85 = .ok (.bipush 30, 2) := by decide +kernel
theorem dX3_init_87 : decode cX3_init 87 = .ok (.newarray .long, 2) := by decide +kernel
theorem dX3_init_89 : decode cX3_init 89 = .ok (.putfield 48, 3) := by decide +kernel
theorem dX3_init_92 : decode cX3_init 92 = .ok (.aload_n 0, 1) := by decide +kernel
theorem dX3_init_93 : decode cX3_init 93 = .ok (.bipush 30, 2) := by decide +kernel
theorem dX3_init_95 : decode cX3_init 95 = .ok (.newarray .long, 2) := by decide +kernel
theorem dX3_init_97 : decode cX3_init 97 = .ok (.putfield 51, 3) := by decide +kernel
theorem dX3_init_100 : decode cX3_init 100 = .ok (.return_, 1) := by decide +kernel
theorem dX3_part_0 : decode cX3_part 0 = .ok (.iload_n 1, 1) := by decide +kernel
theorem dX3_part_1 : decode cX3_part 1 = .ok (.invokestatic 54, 3) := by decide +kernel
theorem dX3_part_4 : decode cX3_part 4 = .ok (.ifCond .ne 5, 3) := by decide +kernel
theorem dX3_part_7 : decode cX3_part 7 = .ok (.iconst (-1), 1) := by decide +kernel
theorem dX3_part_8 : decode cX3_part 8 = .ok (.ireturn, 1) := by decide +kernel
theorem dX3_part_9 : decode cX3_part 9 = .ok (.iload_n 2, 1) := by decide +kernel
theorem dX3_part_10 : decode cX3_part 10 = .ok (.ifCond .lt 9, 3) := by decide +kernel
theorem dX3_part_13 : decode cX3_part 13 = .ok (.iload_n 2, 1) := by decide +kernel
theorem dX3_part_14 : decode cX3_part 14 = .ok (.bipush 6, 2) := by decide +kernel
theorem dX3_part_16 : decode cX3_part 16 = .ok (.if_icmp .lt 6, 3) := by decide +kernel
theorem dX3_part_19 : decode cX3_part 19 = .ok (.bipush (-2), 2) := by decide +kernel
theorem dX3_part_21 : decode cX3_part 21 = .ok (.ireturn, 1) := by decide +kernel
theorem dX3_part_22 : decode cX3_part 22 = .ok (.aload_n 0, 1) := by decide +kernel
theorem dX3_part_23 : decode cX3_part 23 = .ok (.getfield 10, 3) := by decide +kernel
theorem dX3_part_26 : decode cX3_part 26 = .ok (.iload_n 1, 1) := by decide +kernel
theorem dX3_part_27 : decode cX3_part 27 = .ok (.iload_n 2, 1) := by decide +kernel
theorem dX3_part_28 : decode cX3_part 28 = .ok (.invokevirtual 58, 3) := by decide +kernel
theorem dX3_part_31 : decode cX3_part 31 = .ok (.ireturn, 1) := by decide +kernel
theorem dX3_about_0 : decode cX3_about 0 = .ok (.iload_n 1, 1) := by decide +kernel
theorem dX3_about_1 : decode cX3_about 1 = .ok (.invokestatic 54, 3) := by decide +kernel
theorem dX3_about_4 : decode cX3_about 4 = .ok (.ifCond .ne 5, 3) := by decide +kernel
theorem dX3_about_7 : decode cX3_about 7 = .ok (.iconst (-1), 1) := by decide +kernel
theorem dX3_about_8 : decode cX3_about 8 = .ok (.ireturn, 1) := by decide +kernel
theorem dX3_about_9 : decode cX3_about 9 = .ok (.iload_n 2, 1) := by decide +kernel
theorem dX3_about_10 : decode cX3_about 10 = .ok (.tableswitch 97 0 4 #[34, 44, 54, 64, 74], 34) := by decide +kernel
theorem dX3_about_44 : decode cX3_about 44 = .ok (.aload_n 0, 1) := by decide +kernel
theorem dX3_about_45 : decode cX3_about 45 = .ok (.getfield 10, 3) := by decide +kernel
theorem dX3_about_48 : decode cX3_about 48 = .ok (.getfield 62, 3) := by decide +kernel
theorem dX3_about_51 : decode cX3_about 51 = .ok (.iload_n 1, 1) := by decide +kernel
theorem dX3_about_52 : decode cX3_about 52 = .ok (.iaload, 1) := by decide +kernel
theorem dX3_about_53 : decode cX3_about 53 = .ok (.ireturn, 1) := by decide +kernel
theorem dX3_about_54 : decode cX3_about 54 = .ok (.aload_n 0, 1) := by decide +kernel
theorem dX3_about_55 : decode cX3_about 55 = .ok (.getfield 10, 3) := by decide +kernel
theorem dX3_about_58 : decode cX3_about 58 = .ok (.getfield 66, 3) := by decide +kernel
theorem dX3_about_61 : decode cX3_about 61 = .ok (.iload_n 1, 1) := by decide +kernel
theorem dX3_about_62 : decode cX3_about 62 = .ok (.iaload, 1) := by decide +kernel
theorem dX3_about_63 : decode cX3_about 63 = .ok (.ireturn, 1) := by decide +kernel
theorem dX3_about_64 : decode cX3_about 64 = .ok (.aload_n 0, 1) := by decide +kernel
theorem dX3_about_65 : decode cX3_about 65 = .ok (.getfield 10, 3) := by decide +kernel
theorem dX3_about_68 : decode cX3_about 68 = .ok (.getfield 69, 3) := by decide +kernel
theorem dX3_about_71 : decode cX3_about 71 = .ok (.iload_n 1, 1) := by decide +kernel
theorem dX3_about_72 : decode cX3_about 72 = .ok (.iaload, 1) := by decide +kernel
theorem dX3_about_73 : decode cX3_about 73 = .ok (.ireturn, 1) := by decide +kernel
theorem dX3_about_74 : decode cX3_about 74 = .ok (.aload_n 0, 1) := by decide +kernel
theorem dX3_about_75 : decode cX3_about 75 = .ok (.getfield 10, 3) := by decide +kernel
theorem dX3_about_78 : decode cX3_about 78 = .ok (.getfield 72, 3) := by decide +kernel
theorem dX3_about_81 : decode cX3_about 81 = .ok (.iload_n 1, 1) := by decide +kernel
theorem dX3_about_82 : decode cX3_about 82 = .ok (.iaload, 1) := by decide +kernel
theorem dX3_about_83 : decode cX3_about 83 = .ok (.ireturn, 1) := by decide +kernel
theorem dX3_about_84 : decode cX3_about 84 = .ok (.aload_n 0, 1) := by decide +kernel
theorem dX3_about_85 : decode cX3_about 85 = .ok (.getfield 10, 3) := by decide +kernel
theorem dX3_about_88 : decode cX3_about 88 = .ok (.iload_n 1, 1) := by decide +kernel
theorem dX3_about_89 : decode cX3_about 89 = .ok (.aload_n 0, 1) := by decide +kernel
theorem dX3_about_90 : decode cX3_about 90 = .ok (.getfield 10, 3) := by decide +kernel
theorem dX3_about_93 : decode cX3_about 93 = .ok (.getfield 62, 3) := by decide +kernel
theorem dX3_about_96 : decode cX3_about 96 = .ok (.iload_n 1, 1) := by decide +kernel
theorem dX3_about_97 : decode cX3_about 97 = .ok (.iaload, 1) := by decide +kernel
theorem dX3_about_98 : decode cX3_about 98 = .ok (.invokestatic 75, 3) := by decide +kernel
theorem dX3_about_101 : decode cX3_about 101 = .ok (.iconst 1, 1) := by decide +kernel
theorem dX3_about_102 : decode cX3_about 102 = .ok (.isub, 1) := by decide +kernel
theorem dX3_about_103 : decode cX3_about 103 = .ok (.invokevirtual 79, 3) := by decide +kernel
theorem dX3_about_106 : decode cX3_about 106 = .ok (.ireturn, 1) := by decide +kernel
theorem dX3_about_107 : decode cX3_about 107 = .ok (.bipush (-2), 2) := by decide +kernel
theorem dX3_about_109 : decode cX3_about 109 = .ok (.ireturn, 1) := by decide +kernel
theorem dX3_kostka_0 : decode cX3_kostka 0 = .ok (.iload_n 1, 1) := by decide +kernel
theorem dX3_kostka_1 : decode cX3_kostka 1 = .ok (.invokestatic 54, 3) := by decide +kernel
theorem dX3_kostka_4 : decode cX3_kostka 4 = .ok (.ifCond .eq 10, 3) := by decide +kernel
theorem dX3_kostka_7 : decode cX3_kostka 7 = .ok (.iload_n 2, 1) := by decide +kernel
theorem dX3_kostka_8 : decode cX3_kostka 8 = .ok (.invokestatic 54, 3) := by decide +kernel
theorem dX3_kostka_11 : decode cX3_kostka 11 = .ok (.ifCond .ne 5, 3) := by decide +kernel
theorem dX3_kostka_14 : decode cX3_kostka 14 = .ok (.iconst (-1), 1) := by decide +kernel
theorem dX3_kostka_15 : decode cX3_kostka 15 = .ok (.ireturn, 1) := by decide +kernel
theorem dX3_kostka_16 : decode cX3_kostka 16 = .ok (.aload_n 0, 1) := by decide +kernel
theorem dX3_kostka_17 : decode cX3_kostka 17 = .ok (.getfield 10, 3) := by decide +kernel
theorem dX3_kostka_20 : decode cX3_kostka 20 = .ok (.iload_n 1, 1) := by decide +kernel
theorem dX3_kostka_21 : decode cX3_kostka 21 = .ok (.iload_n 2, 1) := by decide +kernel
theorem dX3_kostka_22 : decode cX3_kostka 22 = .ok (.invokevirtual 79, 3) := by decide +kernel
theorem dX3_kostka_25 : decode cX3_kostka 25 = .ok (.ireturn, 1) := by decide +kernel
theorem dX3_character_0 : decode cX3_character 0 = .ok (.iload_n 1, 1) := by decide +kernel
theorem dX3_character_1 : decode cX3_character 1 = .ok (.invokestatic 54, 3) := by decide +kernel
theorem dX3_character_4 : decode cX3_character 4 = .ok (.ifCond .eq 10, 3) := by decide +kernel
theorem dX3_character_7 : decode cX3_character 7 = .ok (.iload_n 2, 1) := by decide +kernel
theorem dX3_character_8 : decode cX3_character 8 = .ok (.invokestatic 54, 3) := by decide +kernel
theorem dX3_character_11 : decode cX3_character 11 = .ok (.ifCond .ne 5, 3) := by decide +kernel
theorem dX3_character_14 : decode cX3_character 14 = .ok (.iconst (-1), 1) := by decide +kernel
theorem dX3_character_15 : decode cX3_character 15 = .ok (.ireturn, 1) := by decide +kernel
theorem dX3_character_16 : decode cX3_character 16 = .ok (.aload_n 0, 1) := by decide +kernel
theorem dX3_character_17 : decode cX3_character 17 = .ok (.getfield 10, 3) := by decide +kernel
theorem dX3_character_20 : decode cX3_character 20 = .ok (.iload_n 1, 1) := by decide +kernel
theorem dX3_character_21 : decode cX3_character 21 = .ok (.iload_n 2, 1) := by decide +kernel
theorem dX3_character_22 : decode cX3_character 22 = .ok (.invokevirtual 82, 3) := by decide +kernel
theorem dX3_character_25 : decode cX3_character 25 = .ok (.sipush 1000, 3) := by decide +kernel
theorem dX3_character_28 : decode cX3_character 28 = .ok (.iadd, 1) := by decide +kernel
theorem dX3_character_29 : decode cX3_character 29 = .ok (.ireturn, 1) := by decide +kernel
theorem dX3_above_0 : decode cX3_above 0 = .ok (.iload_n 1, 1) := by decide +kernel
theorem dX3_above_1 : decode cX3_above 1 = .ok (.invokestatic 54, 3) := by decide +kernel
theorem dX3_above_4 : decode cX3_above 4 = .ok (.ifCond .eq 10, 3) := by decide +kernel
theorem dX3_above_7 : decode cX3_above 7 = .ok (.iload_n 2, 1) := by decide +kernel
theorem dX3_above_8 : decode cX3_above 8 = .ok (.invokestatic 54, 3) := by decide +kernel
theorem dX3_above_11 : decode cX3_above 11 = .ok (.ifCond .ne 5, 3) := by decide +kernel
theorem dX3_above_14 : decode cX3_above 14 = .ok (.iconst (-1), 1) := by decide +kernel
theorem dX3_above_15 : decode cX3_above 15 = .ok (.ireturn, 1) := by decide +kernel
theorem dX3_above_16 : decode cX3_above 16 = .ok (.aload_n 0, 1) := by decide +kernel
theorem dX3_above_17 : decode cX3_above 17 = .ok (.getfield 10, 3) := by decide +kernel
theorem dX3_above_20 : decode cX3_above 20 = .ok (.iload_n 1, 1) := by decide +kernel
theorem dX3_above_21 : decode cX3_above 21 = .ok (.iload_n 2, 1) := by decide +kernel
theorem dX3_above_22 : decode cX3_above 22 = .ok (.invokevirtual 85, 3) := by decide +kernel
theorem dX3_above_25 : decode cX3_above 25 = .ok (.ifCond .eq 7, 3) := by decide +kernel
theorem dX3_above_28 : decode cX3_above 28 = .ok (.iconst 1, 1) := by decide +kernel
theorem dX3_above_29 : decode cX3_above 29 = .ok (.goto 4, 3) := by decide +kernel
theorem dX3_above_32 : decode cX3_above 32 = .ok (.iconst 0, 1) := by decide +kernel
theorem dX3_above_33 : decode cX3_above 33 = .ok (.ireturn, 1) := by decide +kernel
theorem dX3_put_0 : decode cX3_put 0 = .ok (.iload_n 1, 1) := by decide +kernel
theorem dX3_put_1 : decode cX3_put 1 = .ok (.invokestatic 89, 3) := by decide +kernel
theorem dX3_put_4 : decode cX3_put 4 = .ok (.ifCond .eq 17, 3) := by decide +kernel
theorem dX3_put_7 : decode cX3_put 7 = .ok (.iload_n 2, 1) := by decide +kernel
theorem dX3_put_8 : decode cX3_put 8 = .ok (.invokestatic 92, 3) := by decide +kernel
theorem dX3_put_11 : decode cX3_put 11 = .ok (.ifCond .eq 10, 3) := by decide +kernel
theorem dX3_put_14 : decode cX3_put 14 = .ok (.iload_n 3, 1) := by decide +kernel
theorem dX3_put_15 : decode cX3_put 15 = .ok (.invokestatic 54, 3) := by decide +kernel
theorem dX3_put_18 : decode cX3_put 18 = .ok (.ifCond .ne 5, 3) := by decide +kernel
theorem dX3_put_21 : decode cX3_put 21 = .ok (.iconst (-1), 1) := by decide +kernel
theorem dX3_put_22 : decode cX3_put 22 = .ok (.ireturn, 1) := by decide +kernel
theorem dX3_put_23 : decode cX3_put 23 = .ok (.iload 4, 2) := by decide +kernel
theorem dX3_put_25 : decode cX3_put 25 = .ok (.i2l, 1) := by decide +kernel
theorem dX3_put_26 : decode cX3_put 26 = .ok (.ldc2_w 95, 3) := by decide +kernel
theorem dX3_put_29 : decode cX3_put 29 = .ok (.invokestatic 97, 3) := by decide +kernel
theorem dX3_put_32 : decode cX3_put 32 = .ok (.ifCond .ne 6, 3) := by decide +kernel
theorem dX3_put_35 : decode cX3_put 35 = .ok (.bipush (-2), 2) := by decide +kernel
theorem dX3_put_37 : decode cX3_put 37 = .ok (.ireturn, 1) := by decide +kernel
theorem dX3_put_38 : decode cX3_put 38 = .ok (.aload_n 0, 1) := by decide +kernel
theorem dX3_put_39 : decode cX3_put 39 = .ok (.getfield 44, 3) := by decide +kernel
theorem dX3_put_42 : decode cX3_put 42 = .ok (.lconst 0, 1) := by decide +kernel
theorem dX3_put_43 : decode cX3_put 43 = .ok (.invokestatic 101, 3) := by decide +kernel
theorem dX3_put_46 : decode cX3_put 46 = .ok (.aload_n 0, 1) := by decide +kernel
theorem dX3_put_47 : decode cX3_put 47 = .ok (.getfield 44, 3) := by decide +kernel
theorem dX3_put_50 : decode cX3_put 50 = .ok (.iload_n 3, 1) := by decide +kernel
theorem dX3_put_51 : decode cX3_put 51 = .ok (.iload 4, 2) := by decide +kernel
theorem dX3_put_53 : decode cX3_put 53 = .ok (.i2l, 1) := by decide +kernel
theorem dX3_put_54 : decode cX3_put 54 = .ok (.lastore, 1) := by decide +kernel
theorem dX3_put_55 : decode cX3_put 55 = .ok (.aload_n 0, 1) := by decide +kernel
theorem dX3_put_56 : decode cX3_put 56 = .ok (.getfield 21, 3) := by decide +kernel
theorem dX3_put_59 : decode cX3_put 59 = .ok (.iload_n 2, 1) := by decide +kernel
theorem dX3_put_60 : decode cX3_put 60 = .ok (.aload_n 0, 1) := by decide +kernel
theorem dX3_put_61 : decode cX3_put 61 = .ok (.getfield 44, 3) := by decide +kernel
theorem dX3_put_64 : decode cX3_put 64 = .ok (.aload_n 0, 1) := by decide +kernel
theorem dX3_put_65 : decode cX3_put 65 = .ok (.getfield 51, 3) := by decide +kernel
theorem dX3_put_68 : decode cX3_put 68 = .ok (.invokevirtual 107, 3) := by decide +kernel
theorem dX3_put_71 : decode cX3_put 71 = .ok (.aload_n 0, 1) := by decide +kernel
theorem dX3_put_72 : decode cX3_put 72 = .ok (.iload_n 1, 1) := by decide +kernel
theorem dX3_put_73 : decode cX3_put 73 = .ok (.invokevirtual 111, 3) := by decide +kernel
theorem dX3_put_76 : decode cX3_put 76 = .ok (.ireturn, 1) := by decide +kernel
theorem dX3_add_0 : decode cX3_add 0 = .ok (.iload_n 1, 1) := by decide +kernel
theorem dX3_add_1 : decode cX3_add 1 = .ok (.invokestatic 89, 3) := by decide +kernel
theorem dX3_add_4 : decode cX3_add 4 = .ok (.ifCond .eq 10, 3) := by decide +kernel
theorem dX3_add_7 : decode cX3_add 7 = .ok (.iload_n 2, 1) := by decide +kernel
theorem dX3_add_8 : decode cX3_add 8 = .ok (.invokestatic 89, 3) := by decide +kernel
theorem dX3_add_11 : decode cX3_add 11 = .ok (.ifCond .ne 5, 3) := by decide +kernel
theorem dX3_add_14 : decode cX3_add 14 = .ok (.iconst (-1), 1) := by decide +kernel
theorem dX3_add_15 : decode cX3_add 15 = .ok (.ireturn, 1) := by decide +kernel
theorem dX3_add_16 : decode cX3_add 16 = .ok (.iload_n 3, 1) := by decide +kernel
theorem dX3_add_17 : decode cX3_add 17 = .ok (.i2l, 1) := by decide +kernel
theorem dX3_add_18 : decode cX3_add 18 = .ok (.ldc2_w 95, 3) := by decide +kernel
theorem dX3_add_21 : decode cX3_add 21 = .ok (.invokestatic 97, 3) := by decide +kernel
theorem dX3_add_24 : decode cX3_add 24 = .ok (.ifCond .ne 6, 3) := by decide +kernel
theorem dX3_add_27 : decode cX3_add 27 = .ok (.bipush (-2), 2) := by decide +kernel
theorem dX3_add_29 : decode cX3_add 29 = .ok (.ireturn, 1) := by decide +kernel
theorem dX3_add_30 : decode cX3_add 30 = .ok (.iconst 0, 1) := by decide +kernel
theorem dX3_add_31 : decode cX3_add 31 = .ok (.istore 4, 2) := by decide +kernel
theorem dX3_add_33 : decode cX3_add 33 = .ok (.iload 4, 2) := by decide +kernel
theorem dX3_add_35 : decode cX3_add 35 = .ok (.bipush 30, 2) := by decide +kernel
theorem dX3_add_37 : decode cX3_add 37 = .ok (.if_icmp .ge 38, 3) := by decide +kernel
theorem dX3_add_40 : decode cX3_add 40 = .ok (.aload_n 0, 1) := by decide +kernel
theorem dX3_add_41 : decode cX3_add 41 = .ok (.getfield 51, 3) := by decide +kernel
theorem dX3_add_44 : decode cX3_add 44 = .ok (.iload 4, 2) := by decide +kernel
theorem dX3_add_46 : decode cX3_add 46 = .ok (.aload_n 0, 1) := by decide +kernel
theorem dX3_add_47 : decode cX3_add 47 = .ok (.getfield 34, 3) := by decide +kernel
theorem dX3_add_50 : decode cX3_add 50 = .ok (.iload_n 1, 1) := by decide +kernel
theorem dX3_add_51 : decode cX3_add 51 = .ok (.aaload, 1) := by decide +kernel
theorem dX3_add_52 : decode cX3_add 52 = .ok (.iload 4, 2) := by decide +kernel
theorem dX3_add_54 : decode cX3_add 54 = .ok (.laload, 1) := by decide +kernel
theorem dX3_add_55 : decode cX3_add 55 = .ok (.iload_n 3, 1) := by decide +kernel
theorem dX3_add_56 : decode cX3_add 56 = .ok (.i2l, 1) := by decide +kernel
theorem dX3_add_57 : decode cX3_add 57 = .ok (.aload_n 0, 1) := by decide +kernel
theorem dX3_add_58 : decode cX3_add 58 = .ok (.getfield 34, 3) := by decide +kernel
theorem dX3_add_61 : decode cX3_add 61 = .ok (.iload_n 2, 1) := by decide +kernel
theorem dX3_add_62 : decode cX3_add 62 = .ok (.aaload, 1) := by decide +kernel
theorem dX3_add_63 : decode cX3_add 63 = .ok (.iload 4, 2) := by decide +kernel
theorem dX3_add_65 : decode cX3_add 65 = .ok (.laload, 1) := by decide +kernel
theorem dX3_add_66 : decode cX3_add 66 = .ok (.lmul, 1) := by decide +kernel
theorem dX3_add_67 : decode cX3_add 67 = .ok (.ladd, 1) := by decide +kernel
theorem dX3_add_68 : decode cX3_add 68 = .ok (.lastore, 1) := by decide +kernel
theorem dX3_add_69 : decode cX3_add 69 = .ok (.iinc 4 1, 3) := by decide +kernel
theorem dX3_add_72 : decode cX3_add 72 = .ok (.goto (-39), 3) := by decide +kernel
theorem dX3_add_75 : decode cX3_add 75 = .ok (.aload_n 0, 1) := by decide +kernel
theorem dX3_add_76 : decode cX3_add 76 = .ok (.iload_n 1, 1) := by decide +kernel
theorem dX3_add_77 : decode cX3_add 77 = .ok (.invokevirtual 111, 3) := by decide +kernel
theorem dX3_add_80 : decode cX3_add 80 = .ok (.ireturn, 1) := by decide +kernel
theorem dX3_degree_0 : decode cX3_degree 0 = .ok (.iload_n 1, 1) := by decide +kernel
theorem dX3_degree_1 : decode cX3_degree 1 = .ok (.invokestatic 89, 3) := by decide +kernel
theorem dX3_degree_4 : decode cX3_degree 4 = .ok (.ifCond .ne 5, 3) := by decide +kernel
theorem dX3_degree_7 : decode cX3_degree 7 = .ok (.iconst (-1), 1) := by decide +kernel
theorem dX3_degree_8 : decode cX3_degree 8 = .ok (.ireturn, 1) := by decide +kernel
theorem dX3_degree_9 : decode cX3_degree 9 = .ok (.aload_n 0, 1) := by decide +kernel
theorem dX3_degree_10 : decode cX3_degree 10 = .ok (.aload_n 0, 1) := by decide +kernel
theorem dX3_degree_11 : decode cX3_degree 11 = .ok (.getfield 34, 3) := by decide +kernel
theorem dX3_degree_14 : decode cX3_degree 14 = .ok (.iload_n 1, 1) := by decide +kernel
theorem dX3_degree_15 : decode cX3_degree 15 = .ok (.aaload, 1) := by decide +kernel
theorem dX3_degree_16 : decode cX3_degree 16 = .ok (.invokevirtual 114, 3) := by decide +kernel
theorem dX3_degree_19 : decode cX3_degree 19 = .ok (.ireturn, 1) := by decide +kernel
theorem dX3_coefficient_0 : decode cX3_coefficient 0 = .ok (.iload_n 1, 1) := by decide +kernel
theorem dX3_coefficient_1 : decode cX3_coefficient 1 = .ok (.invokestatic 89, 3) := by decide +kernel
theorem dX3_coefficient_4 : decode cX3_coefficient 4 = .ok (.ifCond .eq 17, 3) := by decide +kernel
theorem dX3_coefficient_7 : decode cX3_coefficient 7 = .ok (.iload_n 2, 1) := by decide +kernel
theorem dX3_coefficient_8 : decode cX3_coefficient 8 = .ok (.invokestatic 92, 3) := by decide +kernel
theorem dX3_coefficient_11 : decode cX3_coefficient 11 = .ok (.ifCond .eq 10, 3) := by decide +kernel
theorem dX3_coefficient_14 : decode cX3_coefficient 14 = .ok (.iload_n 3, 1) := by decide +kernel
theorem dX3_coefficient_15 : decode cX3_coefficient 15 = .ok (.invokestatic 54, 3) := by decide +kernel
theorem dX3_coefficient_18 : decode cX3_coefficient 18 = .ok (.ifCond .ne 7, 3) := by decide +kernel
theorem dX3_coefficient_21 : decode cX3_coefficient 21 = .ok (.ldc2_w 118, 3) := by decide +kernel
theorem dX3_coefficient_24 : decode cX3_coefficient 24 = .ok (.lreturn, 1) := by decide +kernel
theorem dX3_coefficient_25 : decode cX3_coefficient 25 = .ok (.iload 4, 2) := by decide +kernel
theorem dX3_coefficient_27 : decode cX3_coefficient 27 = .ok (.ifCond .eq 13, 3) := by decide +kernel
theorem dX3_coefficient_30 : decode cX3_coefficient 30 = .ok (.iload 4, 2) := by decide +kernel
theorem dX3_coefficient_32 : decode cX3_coefficient 32 = .ok (.iconst 1, 1) := by decide +kernel
theorem dX3_coefficient_33 : decode cX3_coefficient 33 = .ok (.if_icmp .eq 7, 3) := by decide +kernel
theorem dX3_coefficient_36 : decode cX3_coefficient 36 = .ok (.ldc2_w 120, 3) := by decide +kernel
theorem dX3_coefficient_39 : decode cX3_coefficient 39 = .ok (.lreturn, 1) := by decide +kernel
theorem dX3_coefficient_40 : decode cX3_coefficient 40 = .ok (.aload_n 0, 1) := by decide +kernel
theorem dX3_coefficient_41 : decode cX3_coefficient 41 = .ok (.getfield 21, 3) := by decide +kernel
theorem dX3_coefficient_44 : decode cX3_coefficient 44 = .ok (.iload_n 2, 1) := by decide +kernel
theorem dX3_coefficient_45 : decode cX3_coefficient 45 = .ok (.aload_n 0, 1) := by decide +kernel
theorem dX3_coefficient_46 : decode cX3_coefficient 46 = .ok (.getfield 34, 3) := by decide +kernel
theorem dX3_coefficient_49 : decode cX3_coefficient 49 = .ok (.iload_n 1, 1) := by decide +kernel
theorem dX3_coefficient_50 : decode cX3_coefficient 50 = .ok (.aaload, 1) := by decide +kernel
theorem dX3_coefficient_51 : decode cX3_coefficient 51 = .ok (.aload_n 0, 1) := by decide +kernel
theorem dX3_coefficient_52 : decode cX3_coefficient 52 = .ok (.getfield 51, 3) := by decide +kernel
theorem dX3_coefficient_55 : decode cX3_coefficient 55 = .ok (.invokevirtual 122, 3) := by decide +kernel
theorem dX3_coefficient_58 : decode cX3_coefficient 58 = .ok (.iload_n 2, 1) := by decide +kernel
theorem dX3_coefficient_59 : decode cX3_coefficient 59 = .ok (.iconst 3, 1) := by decide +kernel
theorem dX3_coefficient_60 : decode cX3_coefficient 60 = .ok (.if_icmp .ne 9, 3) := by decide +kernel
theorem dX3_coefficient_63 : decode cX3_coefficient 63 = .ok (.ldc2_w 125, 3) := by decide +kernel
theorem dX3_coefficient_66 : decode cX3_coefficient 66 = .ok (.goto 4, 3) := by decide +kernel
theorem dX3_coefficient_69 : decode cX3_coefficient 69 = .ok (.lconst 1, 1) := by decide +kernel
theorem dX3_coefficient_70 : decode cX3_coefficient 70 = .ok (.lstore 5, 2) := by decide +kernel
theorem dX3_coefficient_72 : decode cX3_coefficient 72 = .ok (.aload_n 0, 1) := by decide +kernel
theorem dX3_coefficient_73 : decode cX3_coefficient 73 = .ok (.getfield 51, 3) := by decide +kernel
theorem dX3_coefficient_76 : decode cX3_coefficient 76 = .ok (.iload_n 3, 1) := by decide +kernel
theorem dX3_coefficient_77 : decode cX3_coefficient 77 = .ok (.laload, 1) := by decide +kernel
theorem dX3_coefficient_78 : decode cX3_coefficient 78 = .ok (.lload 5, 2) := by decide +kernel
theorem dX3_coefficient_80 : decode cX3_coefficient 80 = .ok (.invokestatic 127, 3) := by decide +kernel
theorem dX3_coefficient_83 : decode cX3_coefficient 83 = .ok (.lstore 7, 2) := by decide +kernel
theorem dX3_coefficient_85 : decode cX3_coefficient 85 = .ok (.lload 7, 2) := by decide +kernel
theorem dX3_coefficient_87 : decode cX3_coefficient 87 = .ok (.lconst 0, 1) := by decide +kernel
theorem dX3_coefficient_88 : decode cX3_coefficient 88 = .ok (.lcmp, 1) := by decide +kernel
theorem dX3_coefficient_89 : decode cX3_coefficient 89 = .ok (.ifCond .ne 5, 3) := by decide +kernel
theorem dX3_coefficient_92 : decode cX3_coefficient 92 = .ok (.lconst 0, 1) := by decide +kernel
theorem dX3_coefficient_93 : decode cX3_coefficient 93 = .ok (.lreturn, 1) := by decide +kernel
theorem dX3_coefficient_94 : decode cX3_coefficient 94 = .ok (.iload 4, 2) := by decide +kernel
theorem dX3_coefficient_96 : decode cX3_coefficient 96 = .ok (.ifCond .ne 15, 3) := by decide +kernel
theorem dX3_coefficient_99 : decode cX3_coefficient 99 = .ok (.aload_n 0, 1) := by decide +kernel
theorem dX3_coefficient_100 : decode cX3_coefficient 100 = .ok (.getfield 51, 3) := by decide +kernel
theorem dX3_coefficient_103 : decode cX3_coefficient 103 = .ok (.iload_n 3, 1) := by decide +kernel
theorem dX3_coefficient_104 : decode cX3_coefficient 104 = .ok (.laload, 1) := by decide +kernel
theorem dX3_coefficient_105 : decode cX3_coefficient 105 = .ok (.lload 7, 2) := by decide +kernel
theorem dX3_coefficient_107 : decode cX3_coefficient 107 = .ok (.ldiv, 1) := by decide +kernel
theorem dX3_coefficient_108 : decode cX3_coefficient 108 = .ok (.goto 8, 3) := by decide +kernel
theorem dX3_coefficient_111 : decode cX3_coefficient 111 = .ok (.lload 5, 2) := by decide +kernel
theorem dX3_coefficient_113 : decode cX3_coefficient 113 = .ok (.lload 7, 2) := by decide +kernel
theorem dX3_coefficient_115 : decode cX3_coefficient 115 = .ok (.ldiv, 1) := by decide +kernel
theorem dX3_coefficient_116 : decode cX3_coefficient 116 = .ok (.lreturn, 1) := by decide +kernel
theorem dX3_next_0 : decode cX3_next 0 = .ok (.iload_n 1, 1) := by decide +kernel
theorem dX3_next_1 : decode cX3_next 1 = .ok (.invokestatic 89, 3) := by decide +kernel
theorem dX3_next_4 : decode cX3_next 4 = .ok (.ifCond .eq 10, 3) := by decide +kernel
theorem dX3_next_7 : decode cX3_next 7 = .ok (.iload_n 2, 1) := by decide +kernel
theorem dX3_next_8 : decode cX3_next 8 = .ok (.invokestatic 92, 3) := by decide +kernel
theorem dX3_next_11 : decode cX3_next 11 = .ok (.ifCond .ne 5, 3) := by decide +kernel
theorem dX3_next_14 : decode cX3_next 14 = .ok (.iconst (-1), 1) := by decide +kernel
theorem dX3_next_15 : decode cX3_next 15 = .ok (.ireturn, 1) := by decide +kernel
theorem dX3_next_16 : decode cX3_next 16 = .ok (.iload_n 3, 1) := by decide +kernel
theorem dX3_next_17 : decode cX3_next 17 = .ok (.ifCond .lt 9, 3) := by decide +kernel
theorem dX3_next_20 : decode cX3_next 20 = .ok (.iload_n 3, 1) := by decide +kernel
theorem dX3_next_21 : decode cX3_next 21 = .ok (.bipush 30, 2) := by decide +kernel
theorem dX3_next_23 : decode cX3_next 23 = .ok (.if_icmp .le 6, 3) := by decide +kernel
theorem dX3_next_26 : decode cX3_next 26 = .ok (.bipush (-2), 2) := by decide +kernel
theorem dX3_next_28 : decode cX3_next 28 = .ok (.ireturn, 1) := by decide +kernel
theorem dX3_next_29 : decode cX3_next 29 = .ok (.aload_n 0, 1) := by decide +kernel
theorem dX3_next_30 : decode cX3_next 30 = .ok (.getfield 21, 3) := by decide +kernel
theorem dX3_next_33 : decode cX3_next 33 = .ok (.iload_n 2, 1) := by decide +kernel
theorem dX3_next_34 : decode cX3_next 34 = .ok (.aload_n 0, 1) := by decide +kernel
theorem dX3_next_35 : decode cX3_next 35 = .ok (.getfield 34, 3) := by decide +kernel
theorem dX3_next_38 : decode cX3_next 38 = .ok (.iload_n 1, 1) := by decide +kernel
theorem dX3_next_39 : decode cX3_next 39 = .ok (.aaload, 1) := by decide +kernel
theorem dX3_next_40 : decode cX3_next 40 = .ok (.aload_n 0, 1) := by decide +kernel
theorem dX3_next_41 : decode cX3_next 41 = .ok (.getfield 51, 3) := by decide +kernel
theorem dX3_next_44 : decode cX3_next 44 = .ok (.invokevirtual 122, 3) := by decide +kernel
theorem dX3_next_47 : decode cX3_next 47 = .ok (.iload_n 3, 1) := by decide +kernel
theorem dX3_next_48 : decode cX3_next 48 = .ok (.istore 4, 2) := by decide +kernel
theorem dX3_next_50 : decode cX3_next 50 = .ok (.iload 4, 2) := by decide +kernel
theorem dX3_next_52 : decode cX3_next 52 = .ok (.bipush 30, 2) := by decide +kernel
theorem dX3_next_54 : decode cX3_next 54 = .ok (.if_icmp .ge 24, 3) := by decide +kernel
theorem dX3_next_57 : decode cX3_next 57 = .ok (.aload_n 0, 1) := by decide +kernel
theorem dX3_next_58 : decode cX3_next 58 = .ok (.getfield 51, 3) := by decide +kernel
theorem dX3_next_61 : decode cX3_next 61 = .ok (.iload 4, 2) := by decide +kernel
theorem dX3_next_63 : decode cX3_next 63 = .ok (.laload, 1) := by decide +kernel
theorem dX3_next_64 : decode cX3_next 64 = .ok (.lconst 0, 1) := by decide +kernel
theorem dX3_next_65 : decode cX3_next 65 = .ok (.lcmp, 1) := by decide +kernel
theorem dX3_next_66 : decode cX3_next 66 = .ok (.ifCond .eq 6, 3) := by decide +kernel
theorem dX3_next_69 : decode cX3_next 69 = .ok (.iload 4, 2) := by decide +kernel
theorem dX3_next_71 : decode cX3_next 71 = .ok (.ireturn, 1) := by decide +kernel
theorem dX3_next_72 : decode cX3_next 72 = .ok (.iinc 4 1, 3) := by decide +kernel
theorem dX3_next_75 : decode cX3_next 75 = .ok (.goto (-25), 3) := by decide +kernel
theorem dX3_next_78 : decode cX3_next 78 = .ok (.bipush (-6), 2) := by decide +kernel
theorem dX3_next_80 : decode cX3_next 80 = .ok (.ireturn, 1) := by decide +kernel
theorem dX3_value_0 : decode cX3_value 0 = .ok (.iload_n 1, 1) := by decide +kernel
theorem dX3_value_1 : decode cX3_value 1 = .ok (.invokestatic 89, 3) := by decide +kernel
theorem dX3_value_4 : decode cX3_value 4 = .ok (.ifCond .ne 7, 3) := by decide +kernel
theorem dX3_value_7 : decode cX3_value 7 = .ok (.ldc2_w 118, 3) := by decide +kernel
theorem dX3_value_10 : decode cX3_value 10 = .ok (.lreturn, 1) := by decide +kernel
theorem dX3_value_11 : decode cX3_value 11 = .ok (.iload_n 2, 1) := by decide +kernel
theorem dX3_value_12 : decode cX3_value 12 = .ok (.i2l, 1) := by decide +kernel
theorem dX3_value_13 : decode cX3_value 13 = .ok (.ldc2_w 131, 3) := by decide +kernel
theorem dX3_value_16 : decode cX3_value 16 = .ok (.invokestatic 97, 3) := by decide +kernel
theorem dX3_value_19 : decode cX3_value 19 = .ok (.ifCond .eq 26, 3) := by decide +kernel
theorem dX3_value_22 : decode cX3_value 22 = .ok (.iload_n 3, 1) := by decide +kernel
theorem dX3_value_23 : decode cX3_value 23 = .ok (.i2l, 1) := by decide +kernel
theorem dX3_value_24 : decode cX3_value 24 = .ok (.ldc2_w 131, 3) := by decide +kernel
theorem dX3_value_27 : decode cX3_value 27 = .ok (.invokestatic 97, 3) := by decide +kernel
theorem dX3_value_30 : decode cX3_value 30 = .ok (.ifCond .eq 15, 3) := by decide +kernel
theorem dX3_value_33 : decode cX3_value 33 = .ok (.iload 4, 2) := by decide +kernel
theorem dX3_value_35 : decode cX3_value 35 = .ok (.i2l, 1) := by decide +kernel
theorem dX3_value_36 : decode cX3_value 36 = .ok (.ldc2_w 131, 3) := by decide +kernel
theorem dX3_value_39 : decode cX3_value 39 = .ok (.invokestatic 97, 3) := by decide +kernel
theorem dX3_value_42 : decode cX3_value 42 = .ok (.ifCond .ne 7, 3) := by decide +kernel
theorem dX3_value_45 : decode cX3_value 45 = .ok (.ldc2_w 120, 3) := by decide +kernel
theorem dX3_value_48 : decode cX3_value 48 = .ok (.lreturn, 1) := by decide +kernel
theorem dX3_value_49 : decode cX3_value 49 = .ok (.aload_n 0, 1) := by decide +kernel
theorem dX3_value_50 : decode cX3_value 50 = .ok (.getfield 28, 3) := by decide +kernel
theorem dX3_value_53 : decode cX3_value 53 = .ok (.aload_n 0, 1) := by decide +kernel
theorem dX3_value_54 : decode cX3_value 54 = .ok (.getfield 34, 3) := by decide +kernel
theorem dX3_value_57 : decode cX3_value 57 = .ok (.iload_n 1, 1) := by decide +kernel
theorem dX3_value_58 : decode cX3_value 58 = .ok (.aaload, 1) := by decide +kernel
theorem dX3_value_59 : decode cX3_value 59 = .ok (.iload_n 2, 1) := by decide +kernel
theorem dX3_value_60 : decode cX3_value 60 = .ok (.i2l, 1) := by decide +kernel
theorem dX3_value_61 : decode cX3_value 61 = .ok (.iload_n 3, 1) := by decide +kernel
theorem dX3_value_62 : decode cX3_value 62 = .ok (.i2l, 1) := by decide +kernel
theorem dX3_value_63 : decode cX3_value 63 = .ok (.iload 4, 2) := by decide +kernel
theorem dX3_value_65 : decode cX3_value 65 = .ok (.i2l, 1) := by decide +kernel
theorem dX3_value_66 : decode cX3_value 66 = .ok (.invokevirtual 133, 3) := by decide +kernel
theorem dX3_value_69 : decode cX3_value 69 = .ok (.lreturn, 1) := by decide +kernel
theorem dX3_scalar_0 : decode cX3_scalar 0 = .ok (.iload_n 1, 1) := by decide +kernel
theorem dX3_scalar_1 : decode cX3_scalar 1 = .ok (.invokestatic 89, 3) := by decide +kernel
theorem dX3_scalar_4 : decode cX3_scalar 4 = .ok (.ifCond .eq 10, 3) := by decide +kernel
theorem dX3_scalar_7 : decode cX3_scalar 7 = .ok (.iload_n 2, 1) := by decide +kernel
theorem dX3_scalar_8 : decode cX3_scalar 8 = .ok (.invokestatic 89, 3) := by decide +kernel
theorem dX3_scalar_11 : decode cX3_scalar 11 = .ok (.ifCond .ne 7, 3) := by decide +kernel
theorem dX3_scalar_14 : decode cX3_scalar 14 = .ok (.ldc2_w 118, 3) := by decide +kernel
theorem dX3_scalar_17 : decode cX3_scalar 17 = .ok (.lreturn, 1) := by decide +kernel
theorem dX3_scalar_18 : decode cX3_scalar 18 = .ok (.aload_n 0, 1) := by decide +kernel
theorem dX3_scalar_19 : decode cX3_scalar 19 = .ok (.getfield 21, 3) := by decide +kernel
theorem dX3_scalar_22 : decode cX3_scalar 22 = .ok (.iconst 4, 1) := by decide +kernel
theorem dX3_scalar_23 : decode cX3_scalar 23 = .ok (.aload_n 0, 1) := by decide +kernel
theorem dX3_scalar_24 : decode cX3_scalar 24 = .ok (.getfield 34, 3) := by decide +kernel
theorem dX3_scalar_27 : decode cX3_scalar 27 = .ok (.iload_n 1, 1) := by decide +kernel
theorem dX3_scalar_28 : decode cX3_scalar 28 = .ok (.aaload, 1) := by decide +kernel
theorem dX3_scalar_29 : decode cX3_scalar 29 = .ok (.aload_n 0, 1) := by decide +kernel
theorem dX3_scalar_30 : decode cX3_scalar 30 = .ok (.getfield 44, 3) := by decide +kernel
theorem dX3_scalar_33 : decode cX3_scalar 33 = .ok (.invokevirtual 122, 3) := by decide +kernel
theorem dX3_scalar_36 : decode cX3_scalar 36 = .ok (.aload_n 0, 1) := by decide +kernel
theorem dX3_scalar_37 : decode cX3_scalar 37 = .ok (.getfield 21, 3) := by decide +kernel
theorem dX3_scalar_40 : decode cX3_scalar 40 = .ok (.iconst 4, 1) := by decide +kernel
theorem dX3_scalar_41 : decode cX3_scalar 41 = .ok (.aload_n 0, 1) := by decide +kernel
theorem dX3_scalar_42 : decode cX3_scalar 42 = .ok (.getfield 34, 3) := by decide +kernel
theorem dX3_scalar_45 : decode cX3_scalar 45 = .ok (.iload_n 2, 1) := by decide +kernel
theorem dX3_scalar_46 : decode cX3_scalar 46 = .ok (.aaload, 1) := by decide +kernel
theorem dX3_scalar_47 : decode cX3_scalar 47 = .ok (.aload_n 0, 1) := by decide +kernel
theorem dX3_scalar_48 : decode cX3_scalar 48 = .ok (.getfield 48, 3) := by decide +kernel
theorem dX3_scalar_51 : decode cX3_scalar 51 = .ok (.invokevirtual 122, 3) := by decide +kernel
theorem dX3_scalar_54 : decode cX3_scalar 54 = .ok (.aload_n 0, 1) := by decide +kernel
theorem dX3_scalar_55 : decode cX3_scalar 55 = .ok (.getfield 44, 3) := by decide +kernel
theorem dX3_scalar_58 : decode cX3_scalar 58 = .ok (.aload_n 0, 1) := by decide +kernel
theorem dX3_scalar_59 : decode cX3_scalar 59 = .ok (.getfield 48, 3) := by decide +kernel
theorem dX3_scalar_62 : decode cX3_scalar 62 = .ok (.invokestatic 137, 3) := by decide +kernel
theorem dX3_scalar_65 : decode cX3_scalar 65 = .ok (.lreturn, 1) := by decide +kernel
theorem dX3_times_0 : decode cX3_times 0 = .ok (.iload_n 1, 1) := by decide +kernel
theorem dX3_times_1 : decode cX3_times 1 = .ok (.invokestatic 89, 3) := by decide +kernel
theorem dX3_times_4 : decode cX3_times 4 = .ok (.ifCond .eq 17, 3) := by decide +kernel
theorem dX3_times_7 : decode cX3_times 7 = .ok (.iload_n 2, 1) := by decide +kernel
theorem dX3_times_8 : decode cX3_times 8 = .ok (.invokestatic 89, 3) := by decide +kernel
theorem dX3_times_11 : decode cX3_times 11 = .ok (.ifCond .eq 10, 3) := by decide +kernel
theorem dX3_times_14 : decode cX3_times 14 = .ok (.iload_n 3, 1) := by decide +kernel
theorem dX3_times_15 : decode cX3_times 15 = .ok (.invokestatic 89, 3) := by decide +kernel
theorem dX3_times_18 : decode cX3_times 18 = .ok (.ifCond .ne 5, 3) := by decide +kernel
theorem dX3_times_21 : decode cX3_times 21 = .ok (.iconst (-1), 1) := by decide +kernel
theorem dX3_times_22 : decode cX3_times 22 = .ok (.ireturn, 1) := by decide +kernel
theorem dX3_times_23 : decode cX3_times 23 = .ok (.aload_n 0, 1) := by decide +kernel
theorem dX3_times_24 : decode cX3_times 24 = .ok (.aload_n 0, 1) := by decide +kernel
theorem dX3_times_25 : decode cX3_times 25 = .ok (.getfield 34, 3) := by decide +kernel
theorem dX3_times_28 : decode cX3_times 28 = .ok (.iload_n 2, 1) := by decide +kernel
theorem dX3_times_29 : decode cX3_times 29 = .ok (.aaload, 1) := by decide +kernel
theorem dX3_times_30 : decode cX3_times 30 = .ok (.invokevirtual 114, 3) := by decide +kernel
theorem dX3_times_33 : decode cX3_times 33 = .ok (.istore 4, 2) := by decide +kernel
theorem dX3_times_35 : decode cX3_times 35 = .ok (.aload_n 0, 1) := by decide +kernel
theorem dX3_times_36 : decode cX3_times 36 = .ok (.aload_n 0, 1) := by decide +kernel
theorem dX3_times_37 : decode cX3_times 37 = .ok (.getfield 34, 3) := by decide +kernel
theorem dX3_times_40 : decode cX3_times 40 = .ok (.iload_n 3, 1) := by decide +kernel
theorem dX3_times_41 : decode cX3_times 41 = .ok (.aaload, 1) := by decide +kernel
theorem dX3_times_42 : decode cX3_times 42 = .ok (.invokevirtual 114, 3) := by decide +kernel
theorem dX3_times_45 : decode cX3_times 45 = .ok (.istore 5, 2) := by decide +kernel
theorem dX3_times_47 : decode cX3_times 47 = .ok (.iload 4, 2) := by decide +kernel
theorem dX3_times_49 : decode cX3_times 49 = .ok (.bipush (-6), 2) := by decide +kernel
theorem dX3_times_51 : decode cX3_times 51 = .ok (.if_icmp .eq 23, 3) := by decide +kernel
theorem dX3_times_54 : decode cX3_times 54 = .ok (.iload 5, 2) := by decide +kernel
theorem dX3_times_56 : decode cX3_times 56 = .ok (.bipush (-6), 2) := by decide +kernel
theorem dX3_times_58 : decode cX3_times 58 = .ok (.if_icmp .eq 16, 3) := by decide +kernel
theorem dX3_times_61 : decode cX3_times 61 = .ok (.iload 4, 2) := by decide +kernel
theorem dX3_times_63 : decode cX3_times 63 = .ok (.iload 5, 2) := by decide +kernel
theorem dX3_times_65 : decode cX3_times 65 = .ok (.iadd, 1) := by decide +kernel
theorem dX3_times_66 : decode cX3_times 66 = .ok (.bipush 6, 2) := by decide +kernel
theorem dX3_times_68 : decode cX3_times 68 = .ok (.if_icmp .le 6, 3) := by decide +kernel
theorem dX3_times_71 : decode cX3_times 71 = .ok (.bipush (-4), 2) := by decide +kernel
theorem dX3_times_73 : decode cX3_times 73 = .ok (.ireturn, 1) := by decide +kernel
theorem dX3_times_74 : decode cX3_times 74 = .ok (.aload_n 0, 1) := by decide +kernel
theorem dX3_times_75 : decode cX3_times 75 = .ok (.iload_n 2, 1) := by decide +kernel
theorem dX3_times_76 : decode cX3_times 76 = .ok (.iload_n 3, 1) := by decide +kernel
theorem dX3_times_77 : decode cX3_times 77 = .ok (.invokevirtual 141, 3) := by decide +kernel
theorem dX3_times_80 : decode cX3_times 80 = .ok (.aload_n 0, 1) := by decide +kernel
theorem dX3_times_81 : decode cX3_times 81 = .ok (.getfield 28, 3) := by decide +kernel
theorem dX3_times_84 : decode cX3_times 84 = .ok (.aload_n 0, 1) := by decide +kernel
theorem dX3_times_85 : decode cX3_times 85 = .ok (.getfield 44, 3) := by decide +kernel
theorem dX3_times_88 : decode cX3_times 88 = .ok (.aload_n 0, 1) := by decide +kernel
theorem dX3_times_89 : decode cX3_times 89 = .ok (.getfield 48, 3) := by decide +kernel
theorem dX3_times_92 : decode cX3_times 92 = .ok (.aload_n 0, 1) := by decide +kernel
theorem dX3_times_93 : decode cX3_times 93 = .ok (.getfield 51, 3) := by decide +kernel
theorem dX3_times_96 : decode cX3_times 96 = .ok (.invokevirtual 145, 3) := by decide +kernel
theorem dX3_times_99 : decode cX3_times 99 = .ok (.aload_n 0, 1) := by decide +kernel
theorem dX3_times_100 : decode cX3_times 100 = .ok (.iload_n 1, 1) := by decide +kernel
theorem dX3_times_101 : decode cX3_times 101 = .ok (.invokevirtual 149, 3) := by decide +kernel
theorem dX3_times_104 : decode cX3_times 104 = .ok (.ireturn, 1) := by decide +kernel
theorem dX3_turn_0 : decode cX3_turn 0 = .ok (.iload_n 1, 1) := by decide +kernel
theorem dX3_turn_1 : decode cX3_turn 1 = .ok (.invokestatic 89, 3) := by decide +kernel
theorem dX3_turn_4 : decode cX3_turn 4 = .ok (.ifCond .eq 10, 3) := by decide +kernel
theorem dX3_turn_7 : decode cX3_turn 7 = .ok (.iload_n 2, 1) := by decide +kernel
theorem dX3_turn_8 : decode cX3_turn 8 = .ok (.invokestatic 89, 3) := by decide +kernel
theorem dX3_turn_11 : decode cX3_turn 11 = .ok (.ifCond .ne 5, 3) := by decide +kernel
theorem dX3_turn_14 : decode cX3_turn 14 = .ok (.iconst (-1), 1) := by decide +kernel
theorem dX3_turn_15 : decode cX3_turn 15 = .ok (.ireturn, 1) := by decide +kernel
theorem dX3_turn_16 : decode cX3_turn 16 = .ok (.aload_n 0, 1) := by decide +kernel
theorem dX3_turn_17 : decode cX3_turn 17 = .ok (.getfield 21, 3) := by decide +kernel
theorem dX3_turn_20 : decode cX3_turn 20 = .ok (.iconst 1, 1) := by decide +kernel
theorem dX3_turn_21 : decode cX3_turn 21 = .ok (.aload_n 0, 1) := by decide +kernel
theorem dX3_turn_22 : decode cX3_turn 22 = .ok (.getfield 34, 3) := by decide +kernel
theorem dX3_turn_25 : decode cX3_turn 25 = .ok (.iload_n 2, 1) := by decide +kernel
theorem dX3_turn_26 : decode cX3_turn 26 = .ok (.aaload, 1) := by decide +kernel
theorem dX3_turn_27 : decode cX3_turn 27 = .ok (.aload_n 0, 1) := by decide +kernel
theorem dX3_turn_28 : decode cX3_turn 28 = .ok (.getfield 44, 3) := by decide +kernel
theorem dX3_turn_31 : decode cX3_turn 31 = .ok (.invokevirtual 122, 3) := by decide +kernel
theorem dX3_turn_34 : decode cX3_turn 34 = .ok (.aload_n 0, 1) := by decide +kernel
theorem dX3_turn_35 : decode cX3_turn 35 = .ok (.getfield 21, 3) := by decide +kernel
theorem dX3_turn_38 : decode cX3_turn 38 = .ok (.iconst 2, 1) := by decide +kernel
theorem dX3_turn_39 : decode cX3_turn 39 = .ok (.aload_n 0, 1) := by decide +kernel
theorem dX3_turn_40 : decode cX3_turn 40 = .ok (.getfield 44, 3) := by decide +kernel
theorem dX3_turn_43 : decode cX3_turn 43 = .ok (.aload_n 0, 1) := by decide +kernel
theorem dX3_turn_44 : decode cX3_turn 44 = .ok (.getfield 51, 3) := by decide +kernel
theorem dX3_turn_47 : decode cX3_turn 47 = .ok (.invokevirtual 107, 3) := by decide +kernel
theorem dX3_turn_50 : decode cX3_turn 50 = .ok (.aload_n 0, 1) := by decide +kernel
theorem dX3_turn_51 : decode cX3_turn 51 = .ok (.iload_n 1, 1) := by decide +kernel
theorem dX3_turn_52 : decode cX3_turn 52 = .ok (.invokevirtual 111, 3) := by decide +kernel
theorem dX3_turn_55 : decode cX3_turn 55 = .ok (.ireturn, 1) := by decide +kernel
theorem dX3_strip_0 : decode cX3_strip 0 = .ok (.iload_n 1, 1) := by decide +kernel
theorem dX3_strip_1 : decode cX3_strip 1 = .ok (.invokestatic 89, 3) := by decide +kernel
theorem dX3_strip_4 : decode cX3_strip 4 = .ok (.ifCond .eq 17, 3) := by decide +kernel
theorem dX3_strip_7 : decode cX3_strip 7 = .ok (.iload_n 2, 1) := by decide +kernel
theorem dX3_strip_8 : decode cX3_strip 8 = .ok (.invokestatic 89, 3) := by decide +kernel
theorem dX3_strip_11 : decode cX3_strip 11 = .ok (.ifCond .eq 10, 3) := by decide +kernel
theorem dX3_strip_14 : decode cX3_strip 14 = .ok (.iload_n 3, 1) := by decide +kernel
theorem dX3_strip_15 : decode cX3_strip 15 = .ok (.invokestatic 89, 3) := by decide +kernel
theorem dX3_strip_18 : decode cX3_strip 18 = .ok (.ifCond .ne 5, 3) := by decide +kernel
theorem dX3_strip_21 : decode cX3_strip 21 = .ok (.iconst (-1), 1) := by decide +kernel
theorem dX3_strip_22 : decode cX3_strip 22 = .ok (.ireturn, 1) := by decide +kernel
theorem dX3_strip_23 : decode cX3_strip 23 = .ok (.aload_n 0, 1) := by decide +kernel
theorem dX3_strip_24 : decode cX3_strip 24 = .ok (.iload_n 2, 1) := by decide +kernel
theorem dX3_strip_25 : decode cX3_strip 25 = .ok (.iload_n 3, 1) := by decide +kernel
theorem dX3_strip_26 : decode cX3_strip 26 = .ok (.invokevirtual 141, 3) := by decide +kernel
theorem dX3_strip_29 : decode cX3_strip 29 = .ok (.aload_n 0, 1) := by decide +kernel
theorem dX3_strip_30 : decode cX3_strip 30 = .ok (.getfield 28, 3) := by decide +kernel
theorem dX3_strip_33 : decode cX3_strip 33 = .ok (.aload_n 0, 1) := by decide +kernel
theorem dX3_strip_34 : decode cX3_strip 34 = .ok (.getfield 44, 3) := by decide +kernel
theorem dX3_strip_37 : decode cX3_strip 37 = .ok (.aload_n 0, 1) := by decide +kernel
theorem dX3_strip_38 : decode cX3_strip 38 = .ok (.getfield 48, 3) := by decide +kernel
theorem dX3_strip_41 : decode cX3_strip 41 = .ok (.aload_n 0, 1) := by decide +kernel
theorem dX3_strip_42 : decode cX3_strip 42 = .ok (.getfield 51, 3) := by decide +kernel
theorem dX3_strip_45 : decode cX3_strip 45 = .ok (.invokevirtual 152, 3) := by decide +kernel
theorem dX3_strip_48 : decode cX3_strip 48 = .ok (.aload_n 0, 1) := by decide +kernel
theorem dX3_strip_49 : decode cX3_strip 49 = .ok (.iload_n 1, 1) := by decide +kernel
theorem dX3_strip_50 : decode cX3_strip 50 = .ok (.invokevirtual 149, 3) := by decide +kernel
theorem dX3_strip_53 : decode cX3_strip 53 = .ok (.ireturn, 1) := by decide +kernel
theorem dX3_meet_0 : decode cX3_meet 0 = .ok (.iload_n 1, 1) := by decide +kernel
theorem dX3_meet_1 : decode cX3_meet 1 = .ok (.invokestatic 89, 3) := by decide +kernel
theorem dX3_meet_4 : decode cX3_meet 4 = .ok (.ifCond .eq 17, 3) := by decide +kernel
theorem dX3_meet_7 : decode cX3_meet 7 = .ok (.iload_n 2, 1) := by decide +kernel
theorem dX3_meet_8 : decode cX3_meet 8 = .ok (.invokestatic 89, 3) := by decide +kernel
theorem dX3_meet_11 : decode cX3_meet 11 = .ok (.ifCond .eq 10, 3) := by decide +kernel
theorem dX3_meet_14 : decode cX3_meet 14 = .ok (.iload_n 3, 1) := by decide +kernel
theorem dX3_meet_15 : decode cX3_meet 15 = .ok (.invokestatic 89, 3) := by decide +kernel
theorem dX3_meet_18 : decode cX3_meet 18 = .ok (.ifCond .ne 5, 3) := by decide +kernel
theorem dX3_meet_21 : decode cX3_meet 21 = .ok (.iconst (-1), 1) := by decide +kernel
theorem dX3_meet_22 : decode cX3_meet 22 = .ok (.ireturn, 1) := by decide +kernel
theorem dX3_meet_23 : decode cX3_meet 23 = .ok (.aload_n 0, 1) := by decide +kernel
theorem dX3_meet_24 : decode cX3_meet 24 = .ok (.iload_n 2, 1) := by decide +kernel
theorem dX3_meet_25 : decode cX3_meet 25 = .ok (.iload_n 3, 1) := by decide +kernel
theorem dX3_meet_26 : decode cX3_meet 26 = .ok (.invokevirtual 141, 3) := by decide +kernel
theorem dX3_meet_29 : decode cX3_meet 29 = .ok (.aload_n 0, 1) := by decide +kernel
theorem dX3_meet_30 : decode cX3_meet 30 = .ok (.getfield 28, 3) := by decide +kernel
theorem dX3_meet_33 : decode cX3_meet 33 = .ok (.aload_n 0, 1) := by decide +kernel
theorem dX3_meet_34 : decode cX3_meet 34 = .ok (.getfield 44, 3) := by decide +kernel
theorem dX3_meet_37 : decode cX3_meet 37 = .ok (.aload_n 0, 1) := by decide +kernel
theorem dX3_meet_38 : decode cX3_meet 38 = .ok (.getfield 48, 3) := by decide +kernel
theorem dX3_meet_41 : decode cX3_meet 41 = .ok (.aload_n 0, 1) := by decide +kernel
theorem dX3_meet_42 : decode cX3_meet 42 = .ok (.getfield 51, 3) := by decide +kernel
theorem dX3_meet_45 : decode cX3_meet 45 = .ok (.invokevirtual 155, 3) := by decide +kernel
theorem dX3_meet_48 : decode cX3_meet 48 = .ok (.aload_n 0, 1) := by decide +kernel
theorem dX3_meet_49 : decode cX3_meet 49 = .ok (.iload_n 1, 1) := by decide +kernel
theorem dX3_meet_50 : decode cX3_meet 50 = .ok (.invokevirtual 149, 3) := by decide +kernel
theorem dX3_meet_53 : decode cX3_meet 53 = .ok (.ireturn, 1) := by decide +kernel
theorem dX3_plug_0 : decode cX3_plug 0 = .ok (.iload_n 1, 1) := by decide +kernel
theorem dX3_plug_1 : decode cX3_plug 1 = .ok (.invokestatic 89, 3) := by decide +kernel
theorem dX3_plug_4 : decode cX3_plug 4 = .ok (.ifCond .eq 17, 3) := by decide +kernel
theorem dX3_plug_7 : decode cX3_plug 7 = .ok (.iload_n 2, 1) := by decide +kernel
theorem dX3_plug_8 : decode cX3_plug 8 = .ok (.invokestatic 89, 3) := by decide +kernel
theorem dX3_plug_11 : decode cX3_plug 11 = .ok (.ifCond .eq 10, 3) := by decide +kernel
theorem dX3_plug_14 : decode cX3_plug 14 = .ok (.iload_n 3, 1) := by decide +kernel
theorem dX3_plug_15 : decode cX3_plug 15 = .ok (.invokestatic 89, 3) := by decide +kernel
theorem dX3_plug_18 : decode cX3_plug 18 = .ok (.ifCond .ne 5, 3) := by decide +kernel
theorem dX3_plug_21 : decode cX3_plug 21 = .ok (.iconst (-1), 1) := by decide +kernel
theorem dX3_plug_22 : decode cX3_plug 22 = .ok (.ireturn, 1) := by decide +kernel
theorem dX3_plug_23 : decode cX3_plug 23 = .ok (.aload_n 0, 1) := by decide +kernel
theorem dX3_plug_24 : decode cX3_plug 24 = .ok (.getfield 34, 3) := by decide +kernel
theorem dX3_plug_27 : decode cX3_plug 27 = .ok (.iload_n 2, 1) := by decide +kernel
theorem dX3_plug_28 : decode cX3_plug 28 = .ok (.aaload, 1) := by decide +kernel
theorem dX3_plug_29 : decode cX3_plug 29 = .ok (.ldc2_w 95, 3) := by decide +kernel
theorem dX3_plug_32 : decode cX3_plug 32 = .ok (.invokestatic 158, 3) := by decide +kernel
theorem dX3_plug_35 : decode cX3_plug 35 = .ok (.ifCond .eq 18, 3) := by decide +kernel
theorem dX3_plug_38 : decode cX3_plug 38 = .ok (.aload_n 0, 1) := by decide +kernel
theorem dX3_plug_39 : decode cX3_plug 39 = .ok (.getfield 34, 3) := by decide +kernel
theorem dX3_plug_42 : decode cX3_plug 42 = .ok (.iload_n 3, 1) := by decide +kernel
theorem dX3_plug_43 : decode cX3_plug 43 = .ok (.aaload, 1) := by decide +kernel
theorem dX3_plug_44 : decode cX3_plug 44 = .ok (.ldc2_w 131, 3) := by decide +kernel
theorem dX3_plug_47 : decode cX3_plug 47 = .ok (.invokestatic 158, 3) := by decide +kernel
theorem dX3_plug_50 : decode cX3_plug 50 = .ok (.ifCond .ne 6, 3) := by decide +kernel
theorem dX3_plug_53 : decode cX3_plug 53 = .ok (.bipush (-3), 2) := by decide +kernel
theorem dX3_plug_55 : decode cX3_plug 55 = .ok (.ireturn, 1) := by decide +kernel
theorem dX3_plug_56 : decode cX3_plug 56 = .ok (.aload_n 0, 1) := by decide +kernel
theorem dX3_plug_57 : decode cX3_plug 57 = .ok (.aload_n 0, 1) := by decide +kernel
theorem dX3_plug_58 : decode cX3_plug 58 = .ok (.getfield 34, 3) := by decide +kernel
theorem dX3_plug_61 : decode cX3_plug 61 = .ok (.iload_n 2, 1) := by decide +kernel
theorem dX3_plug_62 : decode cX3_plug 62 = .ok (.aaload, 1) := by decide +kernel
theorem dX3_plug_63 : decode cX3_plug 63 = .ok (.invokevirtual 114, 3) := by decide +kernel
theorem dX3_plug_66 : decode cX3_plug 66 = .ok (.istore 4, 2) := by decide +kernel
theorem dX3_plug_68 : decode cX3_plug 68 = .ok (.aload_n 0, 1) := by decide +kernel
theorem dX3_plug_69 : decode cX3_plug 69 = .ok (.aload_n 0, 1) := by decide +kernel
theorem dX3_plug_70 : decode cX3_plug 70 = .ok (.getfield 34, 3) := by decide +kernel
theorem dX3_plug_73 : decode cX3_plug 73 = .ok (.iload_n 3, 1) := by decide +kernel
theorem dX3_plug_74 : decode cX3_plug 74 = .ok (.aaload, 1) := by decide +kernel
theorem dX3_plug_75 : decode cX3_plug 75 = .ok (.invokevirtual 114, 3) := by decide +kernel
theorem dX3_plug_78 : decode cX3_plug 78 = .ok (.istore 5, 2) := by decide +kernel
theorem dX3_plug_80 : decode cX3_plug 80 = .ok (.iload 4, 2) := by decide +kernel
theorem dX3_plug_82 : decode cX3_plug 82 = .ok (.ifCond .le 21, 3) := by decide +kernel
theorem dX3_plug_85 : decode cX3_plug 85 = .ok (.iload 5, 2) := by decide +kernel
theorem dX3_plug_87 : decode cX3_plug 87 = .ok (.ifCond .le 16, 3) := by decide +kernel
theorem dX3_plug_90 : decode cX3_plug 90 = .ok (.iload 4, 2) := by decide +kernel
theorem dX3_plug_92 : decode cX3_plug 92 = .ok (.iload 5, 2) := by decide +kernel
theorem dX3_plug_94 : decode cX3_plug 94 = .ok (.imul, 1) := by decide +kernel
theorem dX3_plug_95 : decode cX3_plug 95 = .ok (.bipush 6, 2) := by decide +kernel
theorem dX3_plug_97 : decode cX3_plug 97 = .ok (.if_icmp .le 6, 3) := by decide +kernel
theorem dX3_plug_100 : decode cX3_plug 100 = .ok (.bipush (-4), 2) := by decide +kernel
theorem dX3_plug_102 : decode cX3_plug 102 = .ok (.ireturn, 1) := by decide +kernel
theorem dX3_plug_103 : decode cX3_plug 103 = .ok (.aload_n 0, 1) := by decide +kernel
theorem dX3_plug_104 : decode cX3_plug 104 = .ok (.iload_n 2, 1) := by decide +kernel
theorem dX3_plug_105 : decode cX3_plug 105 = .ok (.iload_n 3, 1) := by decide +kernel
theorem dX3_plug_106 : decode cX3_plug 106 = .ok (.invokevirtual 141, 3) := by decide +kernel
theorem dX3_plug_109 : decode cX3_plug 109 = .ok (.aload_n 0, 1) := by decide +kernel
theorem dX3_plug_110 : decode cX3_plug 110 = .ok (.getfield 28, 3) := by decide +kernel
theorem dX3_plug_113 : decode cX3_plug 113 = .ok (.aload_n 0, 1) := by decide +kernel
theorem dX3_plug_114 : decode cX3_plug 114 = .ok (.getfield 44, 3) := by decide +kernel
theorem dX3_plug_117 : decode cX3_plug 117 = .ok (.aload_n 0, 1) := by decide +kernel
theorem dX3_plug_118 : decode cX3_plug 118 = .ok (.getfield 48, 3) := by decide +kernel
theorem dX3_plug_121 : decode cX3_plug 121 = .ok (.aload_n 0, 1) := by decide +kernel
theorem dX3_plug_122 : decode cX3_plug 122 = .ok (.getfield 51, 3) := by decide +kernel
theorem dX3_plug_125 : decode cX3_plug 125 = .ok (.invokevirtual 162, 3) := by decide +kernel
theorem dX3_plug_128 : decode cX3_plug 128 = .ok (.aload_n 0, 1) := by decide +kernel
theorem dX3_plug_129 : decode cX3_plug 129 = .ok (.iload_n 1, 1) := by decide +kernel
theorem dX3_plug_130 : decode cX3_plug 130 = .ok (.invokevirtual 149, 3) := by decide +kernel
theorem dX3_plug_133 : decode cX3_plug 133 = .ok (.ireturn, 1) := by decide +kernel
theorem dX3_image_0 : decode cX3_image 0 = .ok (.iload_n 1, 1) := by decide +kernel
theorem dX3_image_1 : decode cX3_image 1 = .ok (.ifCond .lt 8, 3) := by decide +kernel
theorem dX3_image_4 : decode cX3_image 4 = .ok (.iload_n 1, 1) := by decide +kernel
theorem dX3_image_5 : decode cX3_image 5 = .ok (.iconst 2, 1) := by decide +kernel
theorem dX3_image_6 : decode cX3_image 6 = .ok (.if_icmp .lt 6, 3) := by decide +kernel
theorem dX3_image_9 : decode cX3_image 9 = .ok (.bipush (-2), 2) := by decide +kernel
theorem dX3_image_11 : decode cX3_image 11 = .ok (.ireturn, 1) := by decide +kernel
theorem dX3_image_12 : decode cX3_image 12 = .ok (.iconst 0, 1) := by decide +kernel
theorem dX3_image_13 : decode cX3_image 13 = .ok (.istore_n 2, 1) := by decide +kernel
theorem dX3_image_14 : decode cX3_image 14 = .ok (.iload_n 2, 1) := by decide +kernel
theorem dX3_image_15 : decode cX3_image 15 = .ok (.bipush 8, 2) := by decide +kernel
theorem dX3_image_17 : decode cX3_image 17 = .ok (.if_icmp .ge 33, 3) := by decide +kernel
theorem dX3_image_20 : decode cX3_image 20 = .ok (.aload_n 0, 1) := by decide +kernel
theorem dX3_image_21 : decode cX3_image 21 = .ok (.getfield 34, 3) := by decide +kernel
theorem dX3_image_24 : decode cX3_image 24 = .ok (.iload_n 2, 1) := by decide +kernel
theorem dX3_image_25 : decode cX3_image 25 = .ok (.aaload, 1) := by decide +kernel
theorem dX3_image_26 : decode cX3_image 26 = .ok (.iconst 0, 1) := by decide +kernel
theorem dX3_image_27 : decode cX3_image 27 = .ok (.aload_n 0, 1) := by decide +kernel
theorem dX3_image_28 : decode cX3_image 28 = .ok (.getfield 37, 3) := by decide +kernel
theorem dX3_image_31 : decode cX3_image 31 = .ok (.iload_n 1, 1) := by decide +kernel
theorem dX3_image_32 : decode cX3_image 32 = .ok (.bipush 8, 2) := by decide +kernel
theorem dX3_image_34 : decode cX3_image 34 = .ok (.imul, 1) := by decide +kernel
theorem dX3_image_35 : decode cX3_image 35 = .ok (.iload_n 2, 1) := by decide +kernel
theorem dX3_image_36 : decode cX3_image 36 = .ok (.iadd, 1) := by decide +kernel
theorem dX3_image_37 : decode cX3_image 37 = .ok (.aaload, 1) := by decide +kernel
theorem dX3_image_38 : decode cX3_image 38 = .ok (.iconst 0, 1) := by decide +kernel
theorem dX3_image_39 : decode cX3_image 39 = .ok (.bipush 30, 2) := by decide +kernel
theorem dX3_image_41 : decode cX3_image 41 = .ok (.invokestatic 165, 3) := by decide +kernel
theorem dX3_image_44 : decode cX3_image 44 = .ok (.iinc 2 1, 3) := by decide +kernel
theorem dX3_image_47 : decode cX3_image 47 = .ok (.goto (-33), 3) := by decide +kernel
theorem dX3_image_50 : decode cX3_image 50 = .ok (.aload_n 0, 1) := by decide +kernel
theorem dX3_image_51 : decode cX3_image 51 = .ok (.getfield 40, 3) := by decide +kernel
theorem dX3_image_54 : decode cX3_image 54 = .ok (.iload_n 1, 1) := by decide +kernel
theorem dX3_image_55 : decode cX3_image 55 = .ok (.iconst 1, 1) := by decide +kernel
theorem dX3_image_56 : decode cX3_image 56 = .ok (.bastore, 1) := by decide +kernel
theorem dX3_image_57 : decode cX3_image 57 = .ok (.iconst 1, 1) := by decide +kernel
theorem dX3_image_58 : decode cX3_image 58 = .ok (.ireturn, 1) := by decide +kernel
theorem dX3_restore_0 : decode cX3_restore 0 = .ok (.iload_n 1, 1) := by decide +kernel
theorem dX3_restore_1 : decode cX3_restore 1 = .ok (.ifCond .lt 8, 3) := by decide +kernel
theorem dX3_restore_4 : decode cX3_restore 4 = .ok (.iload_n 1, 1) := by decide +kernel
theorem dX3_restore_5 : decode cX3_restore 5 = .ok (.iconst 2, 1) := by decide +kernel
theorem dX3_restore_6 : decode cX3_restore 6 = .ok (.if_icmp .lt 6, 3) := by decide +kernel
theorem dX3_restore_9 : decode cX3_restore 9 = .ok (.bipush (-2), 2) := by decide +kernel
theorem dX3_restore_11 : decode cX3_restore 11 = .ok (.ireturn, 1) := by decide +kernel
theorem dX3_restore_12 : decode cX3_restore 12 = .ok (.aload_n 0, 1) := by decide +kernel
theorem dX3_restore_13 : decode cX3_restore 13 = .ok (.getfield 40, 3) := by decide +kernel
theorem dX3_restore_16 : decode cX3_restore 16 = .ok (.iload_n 1, 1) := by decide +kernel
theorem dX3_restore_17 : decode cX3_restore 17 = .ok (.baload, 1) := by decide +kernel
theorem dX3_restore_18 : decode cX3_restore 18 = .ok (.ifCond .ne 6, 3) := by decide +kernel
theorem dX3_restore_21 : decode cX3_restore 21 = .ok (.bipush (-3), 2) := by decide +kernel
theorem dX3_restore_23 : decode cX3_restore 23 = .ok (.ireturn, 1) := by decide +kernel
theorem dX3_restore_24 : decode cX3_restore 24 = .ok (.iconst 0, 1) := by decide +kernel
theorem dX3_restore_25 : decode cX3_restore 25 = .ok (.istore_n 2, 1) := by decide +kernel
theorem dX3_restore_26 : decode cX3_restore 26 = .ok (.iload_n 2, 1) := by decide +kernel
theorem dX3_restore_27 : decode cX3_restore 27 = .ok (.bipush 8, 2) := by decide +kernel
theorem dX3_restore_29 : decode cX3_restore 29 = .ok (.if_icmp .ge 33, 3) := by decide +kernel
theorem dX3_restore_32 : decode cX3_restore 32 = .ok (.aload_n 0, 1) := by decide +kernel
theorem dX3_restore_33 : decode cX3_restore 33 = .ok (.getfield 37, 3) := by decide +kernel
theorem dX3_restore_36 : decode cX3_restore 36 = .ok (.iload_n 1, 1) := by decide +kernel
theorem dX3_restore_37 : decode cX3_restore 37 = .ok (.bipush 8, 2) := by decide +kernel
theorem dX3_restore_39 : decode cX3_restore 39 = .ok (.imul, 1) := by decide +kernel
theorem dX3_restore_40 : decode cX3_restore 40 = .ok (.iload_n 2, 1) := by decide +kernel
theorem dX3_restore_41 : decode cX3_restore 41 = .ok (.iadd, 1) := by decide +kernel
theorem dX3_restore_42 : decode cX3_restore 42 = .ok (.aaload, 1) := by decide +kernel
theorem dX3_restore_43 : decode cX3_restore 43 = .ok (.iconst 0, 1) := by decide +kernel
theorem dX3_restore_44 : decode cX3_restore 44 = .ok (.aload_n 0, 1) := by decide +kernel
theorem dX3_restore_45 : decode cX3_restore 45 = .ok (.getfield 34, 3) := by decide +kernel
theorem dX3_restore_48 : decode cX3_restore 48 = .ok (.iload_n 2, 1) := by decide +kernel
theorem dX3_restore_49 : decode cX3_restore 49 = .ok (.aaload, 1) := by decide +kernel
theorem dX3_restore_50 : decode cX3_restore 50 = .ok (.iconst 0, 1) := by decide +kernel
theorem dX3_restore_51 : decode cX3_restore 51 = .ok (.bipush 30, 2) := by decide +kernel
theorem dX3_restore_53 : decode cX3_restore 53 = .ok (.invokestatic 165, 3) := by decide +kernel
theorem dX3_restore_56 : decode cX3_restore 56 = .ok (.iinc 2 1, 3) := by decide +kernel
theorem dX3_restore_59 : decode cX3_restore 59 = .ok (.goto (-33), 3) := by decide +kernel
theorem dX3_restore_62 : decode cX3_restore 62 = .ok (.iconst 1, 1) := by decide +kernel
theorem dX3_restore_63 : decode cX3_restore 63 = .ok (.ireturn, 1) := by decide +kernel
theorem dX3_count_0 : decode cX3_count 0 = .ok (.iload_n 1, 1) := by decide +kernel
theorem dX3_count_1 : decode cX3_count 1 = .ok (.ifCond .ne 8, 3) := by decide +kernel
theorem dX3_count_4 : decode cX3_count 4 = .ok (.aload_n 0, 1) := by decide +kernel
theorem dX3_count_5 : decode cX3_count 5 = .ok (.invokevirtual 171, 3) := by decide +kernel
theorem dX3_count_8 : decode cX3_count 8 = .ok (.ireturn, 1) := by decide +kernel
theorem dX3_count_9 : decode cX3_count 9 = .ok (.iload_n 1, 1) := by decide +kernel
theorem dX3_count_10 : decode cX3_count 10 = .ok (.iconst 1, 1) := by decide +kernel
theorem dX3_count_11 : decode cX3_count 11 = .ok (.if_icmp .ne 33, 3) := by decide +kernel
theorem dX3_count_14 : decode cX3_count 14 = .ok (.aload_n 0, 1) := by decide +kernel
theorem dX3_count_15 : decode cX3_count 15 = .ok (.getfield 40, 3) := by decide +kernel
theorem dX3_count_18 : decode cX3_count 18 = .ok (.iconst 0, 1) := by decide +kernel
theorem dX3_count_19 : decode cX3_count 19 = .ok (.baload, 1) := by decide +kernel
theorem dX3_count_20 : decode cX3_count 20 = .ok (.ifCond .eq 7, 3) := by decide +kernel
theorem dX3_count_23 : decode cX3_count 23 = .ok (.iconst 1, 1) := by decide +kernel
theorem dX3_count_24 : decode cX3_count 24 = .ok (.goto 4, 3) := by decide +kernel
theorem dX3_count_27 : decode cX3_count 27 = .ok (.iconst 0, 1) := by decide +kernel
theorem dX3_count_28 : decode cX3_count 28 = .ok (.aload_n 0, 1) := by decide +kernel
theorem dX3_count_29 : decode cX3_count 29 = .ok (.getfield 40, 3) := by decide +kernel
theorem dX3_count_32 : decode cX3_count 32 = .ok (.iconst 1, 1) := by decide +kernel
theorem dX3_count_33 : decode cX3_count 33 = .ok (.baload, 1) := by decide +kernel
theorem dX3_count_34 : decode cX3_count 34 = .ok (.ifCond .eq 7, 3) := by decide +kernel
theorem dX3_count_37 : decode cX3_count 37 = .ok (.iconst 2, 1) := by decide +kernel
theorem dX3_count_38 : decode cX3_count 38 = .ok (.goto 4, 3) := by decide +kernel
theorem dX3_count_41 : decode cX3_count 41 = .ok (.iconst 0, 1) := by decide +kernel
theorem dX3_count_42 : decode cX3_count 42 = .ok (.iadd, 1) := by decide +kernel
theorem dX3_count_43 : decode cX3_count 43 = .ok (.ireturn, 1) := by decide +kernel
theorem dX3_count_44 : decode cX3_count 44 = .ok (.iload_n 1, 1) := by decide +kernel
theorem dX3_count_45 : decode cX3_count 45 = .ok (.bipush 10, 2) := by decide +kernel
theorem dX3_count_47 : decode cX3_count 47 = .ok (.if_icmp .lt 25, 3) := by decide +kernel
theorem dX3_count_50 : decode cX3_count 50 = .ok (.iload_n 1, 1) := by decide +kernel
theorem dX3_count_51 : decode cX3_count 51 = .ok (.bipush 16, 2) := by decide +kernel
theorem dX3_count_53 : decode cX3_count 53 = .ok (.if_icmp .gt 19, 3) := by decide +kernel
theorem dX3_count_56 : decode cX3_count 56 = .ok (.iload_n 1, 1) := by decide +kernel
theorem dX3_count_57 : decode cX3_count 57 = .ok (.bipush 10, 2) := by decide +kernel
theorem dX3_count_59 : decode cX3_count 59 = .ok (.isub, 1) := by decide +kernel
theorem dX3_count_60 : decode cX3_count 60 = .ok (.invokestatic 75, 3) := by decide +kernel
theorem dX3_count_63 : decode cX3_count 63 = .ok (.iload_n 1, 1) := by decide +kernel
theorem dX3_count_64 : decode cX3_count 64 = .ok (.bipush 10, 2) := by decide +kernel
theorem dX3_count_66 : decode cX3_count 66 = .ok (.isub, 1) := by decide +kernel
theorem dX3_count_67 : decode cX3_count 67 = .ok (.invokestatic 175, 3) := by decide +kernel
theorem dX3_count_70 : decode cX3_count 70 = .ok (.isub, 1) := by decide +kernel
theorem dX3_count_71 : decode cX3_count 71 = .ok (.ireturn, 1) := by decide +kernel
theorem dX3_count_72 : decode cX3_count 72 = .ok (.iload_n 1, 1) := by decide +kernel
theorem dX3_count_73 : decode cX3_count 73 = .ok (.bipush 20, 2) := by decide +kernel
theorem dX3_count_75 : decode cX3_count 75 = .ok (.if_icmp .lt 17, 3) := by decide +kernel
theorem dX3_count_78 : decode cX3_count 78 = .ok (.iload_n 1, 1) := by decide +kernel
theorem dX3_count_79 : decode cX3_count 79 = .ok (.bipush 26, 2) := by decide +kernel
theorem dX3_count_81 : decode cX3_count 81 = .ok (.if_icmp .gt 11, 3) := by decide +kernel
theorem dX3_count_84 : decode cX3_count 84 = .ok (.iload_n 1, 1) := by decide +kernel
theorem dX3_count_85 : decode cX3_count 85 = .ok (.bipush 20, 2) := by decide +kernel
theorem dX3_count_87 : decode cX3_count 87 = .ok (.isub, 1) := by decide +kernel
theorem dX3_count_88 : decode cX3_count 88 = .ok (.invokestatic 175, 3) := by decide +kernel
theorem dX3_count_91 : decode cX3_count 91 = .ok (.ireturn, 1) := by decide +kernel
theorem dX3_count_92 : decode cX3_count 92 = .ok (.bipush (-2), 2) := by decide +kernel
theorem dX3_count_94 : decode cX3_count 94 = .ok (.ireturn, 1) := by decide +kernel
theorem dX3_isSlot_0 : decode cX3_isSlot 0 = .ok (.iload_n 0, 1) := by decide +kernel
theorem dX3_isSlot_1 : decode cX3_isSlot 1 = .ok (.ifCond .lt 13, 3) := by decide +kernel
theorem dX3_isSlot_4 : decode cX3_isSlot 4 = .ok (.iload_n 0, 1) := by decide +kernel
theorem dX3_isSlot_5 : decode cX3_isSlot 5 = .ok (.bipush 8, 2) := by decide +kernel
theorem dX3_isSlot_7 : decode cX3_isSlot 7 = .ok (.if_icmp .ge 7, 3) := by decide +kernel
theorem dX3_isSlot_10 : decode cX3_isSlot 10 = .ok (.iconst 1, 1) := by decide +kernel
theorem dX3_isSlot_11 : decode cX3_isSlot 11 = .ok (.goto 4, 3) := by decide +kernel
theorem dX3_isSlot_14 : decode cX3_isSlot 14 = .ok (.iconst 0, 1) := by decide +kernel
theorem dX3_isSlot_15 : decode cX3_isSlot 15 = .ok (.ireturn, 1) := by decide +kernel
theorem dX3_isBase_0 : decode cX3_isBase 0 = .ok (.iload_n 0, 1) := by decide +kernel
theorem dX3_isBase_1 : decode cX3_isBase 1 = .ok (.ifCond .lt 12, 3) := by decide +kernel
theorem dX3_isBase_4 : decode cX3_isBase 4 = .ok (.iload_n 0, 1) := by decide +kernel
theorem dX3_isBase_5 : decode cX3_isBase 5 = .ok (.iconst 4, 1) := by decide +kernel
theorem dX3_isBase_6 : decode cX3_isBase 6 = .ok (.if_icmp .gt 7, 3) := by decide +kernel
theorem dX3_isBase_9 : decode cX3_isBase 9 = .ok (.iconst 1, 1) := by decide +kernel
theorem dX3_isBase_10 : decode cX3_isBase 10 = .ok (.goto 4, 3) := by decide +kernel
theorem dX3_isBase_13 : decode cX3_isBase 13 = .ok (.iconst 0, 1) := by decide +kernel
theorem dX3_isBase_14 : decode cX3_isBase 14 = .ok (.ireturn, 1) := by decide +kernel
theorem dX3_isPartition_0 : decode cX3_isPartition 0 = .ok (.iload_n 0, 1) := by decide +kernel
theorem dX3_isPartition_1 : decode cX3_isPartition 1 = .ok (.ifCond .lt 13, 3) := by decide +kernel
theorem dX3_isPartition_4 : decode cX3_isPartition 4 = .ok (.iload_n 0, 1) := by decide +kernel
theorem dX3_isPartition_5 : decode cX3_isPartition 5 = .ok (.bipush 30, 2) := by decide +kernel
theorem dX3_isPartition_7 : decode cX3_isPartition 7 = .ok (.if_icmp .ge 7, 3) := by decide +kernel
theorem dX3_isPartition_10 : decode cX3_isPartition 10 = .ok (.iconst 1, 1) := by decide +kernel
theorem dX3_isPartition_11 : decode cX3_isPartition 11 = .ok (.goto 4, 3) := by decide +kernel
theorem dX3_isPartition_14 : decode cX3_isPartition 14 = .ok (.iconst 0, 1) := by decide +kernel
theorem dX3_isPartition_15 : decode cX3_isPartition 15 = .ok (.ireturn, 1) := by decide +kernel
theorem dX3_isWithin_0 : decode cX3_isWithin 0 = .ok (.lload_n 0, 1) := by decide +kernel
theorem dX3_isWithin_1 : decode cX3_isWithin 1 = .ok (.lload_n 2, 1) := by decide +kernel
theorem dX3_isWithin_2 : decode cX3_isWithin 2 = .ok (.lneg, 1) := by decide +kernel
theorem dX3_isWithin_3 : decode cX3_isWithin 3 = .ok (.lcmp, 1) := by decide +kernel
theorem dX3_isWithin_4 : decode cX3_isWithin 4 = .ok (.ifCond .lt 13, 3) := by decide +kernel
theorem dX3_isWithin_7 : decode cX3_isWithin 7 = .ok (.lload_n 0, 1) := by decide +kernel
theorem dX3_isWithin_8 : decode cX3_isWithin 8 = .ok (.lload_n 2, 1) := by decide +kernel
theorem dX3_isWithin_9 : decode cX3_isWithin 9 = .ok (.lcmp, 1) := by decide +kernel
theorem dX3_isWithin_10 : decode cX3_isWithin 10 = .ok (.ifCond .gt 7, 3) := by decide +kernel
theorem dX3_isWithin_13 : decode cX3_isWithin 13 = .ok (.iconst 1, 1) := by decide +kernel
theorem dX3_isWithin_14 : decode cX3_isWithin 14 = .ok (.goto 4, 3) := by decide +kernel
theorem dX3_isWithin_17 : decode cX3_isWithin 17 = .ok (.iconst 0, 1) := by decide +kernel
theorem dX3_isWithin_18 : decode cX3_isWithin 18 = .ok (.ireturn, 1) := by decide +kernel
theorem dX3_areWithin_0 : decode cX3_areWithin 0 = .ok (.aload_n 0, 1) := by decide +kernel
theorem dX3_areWithin_1 : decode cX3_areWithin 1 = .ok (.astore_n 3, 1) := by decide +kernel
theorem dX3_areWithin_2 : decode cX3_areWithin 2 = .ok (.aload_n 3, 1) := by decide +kernel
theorem dX3_areWithin_3 : decode cX3_areWithin 3 = .ok (.arraylength, 1) := by decide +kernel
theorem dX3_areWithin_4 : decode cX3_areWithin 4 = .ok (.istore 4, 2) := by decide +kernel
theorem dX3_areWithin_6 : decode cX3_areWithin 6 = .ok (.iconst 0, 1) := by decide +kernel
theorem dX3_areWithin_7 : decode cX3_areWithin 7 = .ok (.istore 5, 2) := by decide +kernel
theorem dX3_areWithin_9 : decode cX3_areWithin 9 = .ok (.iload 5, 2) := by decide +kernel
theorem dX3_areWithin_11 : decode cX3_areWithin 11 = .ok (.iload 4, 2) := by decide +kernel
theorem dX3_areWithin_13 : decode cX3_areWithin 13 = .ok (.if_icmp .ge 26, 3) := by decide +kernel
theorem dX3_areWithin_16 : decode cX3_areWithin 16 = .ok (.aload_n 3, 1) := by decide +kernel
theorem dX3_areWithin_17 : decode cX3_areWithin 17 = .ok (.iload 5, 2) := by decide +kernel
theorem dX3_areWithin_19 : decode cX3_areWithin 19 = .ok (.laload, 1) := by decide +kernel
theorem dX3_areWithin_20 : decode cX3_areWithin 20 = .ok (.lstore 6, 2) := by decide +kernel
theorem dX3_areWithin_22 : decode cX3_areWithin 22 = .ok (.lload 6, 2) := by decide +kernel
theorem dX3_areWithin_24 : decode cX3_areWithin 24 = .ok (.lload_n 1, 1) := by decide +kernel
theorem dX3_areWithin_25 : decode cX3_areWithin 25 = .ok (.invokestatic 97, 3) := by decide +kernel
theorem dX3_areWithin_28 : decode cX3_areWithin 28 = .ok (.ifCond .ne 5, 3) := by decide +kernel
theorem dX3_areWithin_31 : decode cX3_areWithin 31 = .ok (.iconst 0, 1) := by decide +kernel
theorem dX3_areWithin_32 : decode cX3_areWithin 32 = .ok (.ireturn, 1) := by decide +kernel
theorem dX3_areWithin_33 : decode cX3_areWithin 33 = .ok (.iinc 5 1, 3) := by decide +kernel
theorem dX3_areWithin_36 : decode cX3_areWithin 36 = .ok (.goto (-27), 3) := by decide +kernel
theorem dX3_areWithin_39 : decode cX3_areWithin 39 = .ok (.iconst 1, 1) := by decide +kernel
theorem dX3_areWithin_40 : decode cX3_areWithin 40 = .ok (.ireturn, 1) := by decide +kernel
theorem dX3_degreeOf_0 : decode cX3_degreeOf 0 = .ok (.bipush 29, 2) := by decide +kernel
theorem dX3_degreeOf_2 : decode cX3_degreeOf 2 = .ok (.istore_n 2, 1) := by decide +kernel
theorem dX3_degreeOf_3 : decode cX3_degreeOf 3 = .ok (.iload_n 2, 1) := by decide +kernel
theorem dX3_degreeOf_4 : decode cX3_degreeOf 4 = .ok (.ifCond .lt 27, 3) := by decide +kernel
theorem dX3_degreeOf_7 : decode cX3_degreeOf 7 = .ok (.aload_n 1, 1) := by decide +kernel
theorem dX3_degreeOf_8 : decode cX3_degreeOf 8 = .ok (.iload_n 2, 1) := by decide +kernel
theorem dX3_degreeOf_9 : decode cX3_degreeOf 9 = .ok (.laload, 1) := by decide +kernel
theorem dX3_degreeOf_10 : decode cX3_degreeOf 10 = .ok (.lconst 0, 1) := by decide +kernel
theorem dX3_degreeOf_11 : decode cX3_degreeOf 11 = .ok (.lcmp, 1) := by decide +kernel
theorem dX3_degreeOf_12 : decode cX3_degreeOf 12 = .ok (.ifCond .eq 13, 3) := by decide +kernel
theorem dX3_degreeOf_15 : decode cX3_degreeOf 15 = .ok (.aload_n 0, 1) := by decide +kernel
theorem dX3_degreeOf_16 : decode cX3_degreeOf 16 = .ok (.getfield 10, 3) := by decide +kernel
theorem dX3_degreeOf_19 : decode cX3_degreeOf 19 = .ok (.getfield 62, 3) := by decide +kernel
theorem dX3_degreeOf_22 : decode cX3_degreeOf 22 = .ok (.iload_n 2, 1) := by decide +kernel
theorem dX3_degreeOf_23 : decode cX3_degreeOf 23 = .ok (.iaload, 1) := by decide +kernel
theorem dX3_degreeOf_24 : decode cX3_degreeOf 24 = .ok (.ireturn, 1) := by decide +kernel
theorem dX3_degreeOf_25 : decode cX3_degreeOf 25 = .ok (.iinc 2 (-1), 3) := by decide +kernel
theorem dX3_degreeOf_28 : decode cX3_degreeOf 28 = .ok (.goto (-25), 3) := by decide +kernel
theorem dX3_degreeOf_31 : decode cX3_degreeOf 31 = .ok (.bipush (-6), 2) := by decide +kernel
theorem dX3_degreeOf_33 : decode cX3_degreeOf 33 = .ok (.ireturn, 1) := by decide +kernel
theorem dX3_filledSlots_0 : decode cX3_filledSlots 0 = .ok (.iconst 0, 1) := by decide +kernel
theorem dX3_filledSlots_1 : decode cX3_filledSlots 1 = .ok (.istore_n 1, 1) := by decide +kernel
theorem dX3_filledSlots_2 : decode cX3_filledSlots 2 = .ok (.iconst 0, 1) := by decide +kernel
theorem dX3_filledSlots_3 : decode cX3_filledSlots 3 = .ok (.istore_n 2, 1) := by decide +kernel
theorem dX3_filledSlots_4 : decode cX3_filledSlots 4 = .ok (.iload_n 2, 1) := by decide +kernel
theorem dX3_filledSlots_5 : decode cX3_filledSlots 5 = .ok (.bipush 8, 2) := by decide +kernel
theorem dX3_filledSlots_7 : decode cX3_filledSlots 7 = .ok (.if_icmp .ge 27, 3) := by decide +kernel
theorem dX3_filledSlots_10 : decode cX3_filledSlots 10 = .ok (.aload_n 0, 1) := by decide +kernel
theorem dX3_filledSlots_11 : decode cX3_filledSlots 11 = .ok (.aload_n 0, 1) := by decide +kernel
theorem dX3_filledSlots_12 : decode cX3_filledSlots 12 = .ok (.getfield 34, 3) := by decide +kernel
theorem dX3_filledSlots_15 : decode cX3_filledSlots 15 = .ok (.iload_n 2, 1) := by decide +kernel
theorem dX3_filledSlots_16 : decode cX3_filledSlots 16 = .ok (.aaload, 1) := by decide +kernel
theorem dX3_filledSlots_17 : decode cX3_filledSlots 17 = .ok (.invokevirtual 114, 3) := by decide +kernel
theorem dX3_filledSlots_20 : decode cX3_filledSlots 20 = .ok (.bipush (-6), 2) := by decide +kernel
theorem dX3_filledSlots_22 : decode cX3_filledSlots 22 = .ok (.if_icmp .eq 6, 3) := by decide +kernel
theorem dX3_filledSlots_25 : decode cX3_filledSlots 25 = .ok (.iinc 1 1, 3) := by decide +kernel
theorem dX3_filledSlots_28 : decode cX3_filledSlots 28 = .ok (.iinc 2 1, 3) := by decide +kernel
theorem dX3_filledSlots_31 : decode cX3_filledSlots 31 = .ok (.goto (-27), 3) := by decide +kernel
theorem dX3_filledSlots_34 : decode cX3_filledSlots 34 = .ok (.iload_n 1, 1) := by decide +kernel
theorem dX3_filledSlots_35 : decode cX3_filledSlots 35 = .ok (.ireturn, 1) := by decide +kernel
theorem dX3_readPowers_0 : decode cX3_readPowers 0 = .ok (.aload_n 0, 1) := by decide +kernel
theorem dX3_readPowers_1 : decode cX3_readPowers 1 = .ok (.getfield 21, 3) := by decide +kernel
theorem dX3_readPowers_4 : decode cX3_readPowers 4 = .ok (.iconst 3, 1) := by decide +kernel
theorem dX3_readPowers_5 : decode cX3_readPowers 5 = .ok (.aload_n 0, 1) := by decide +kernel
theorem dX3_readPowers_6 : decode cX3_readPowers 6 = .ok (.getfield 34, 3) := by decide +kernel
theorem dX3_readPowers_9 : decode cX3_readPowers 9 = .ok (.iload_n 1, 1) := by decide +kernel
theorem dX3_readPowers_10 : decode cX3_readPowers 10 = .ok (.aaload, 1) := by decide +kernel
theorem dX3_readPowers_11 : decode cX3_readPowers 11 = .ok (.aload_n 0, 1) := by decide +kernel
theorem dX3_readPowers_12 : decode cX3_readPowers 12 = .ok (.getfield 44, 3) := by decide +kernel
theorem dX3_readPowers_15 : decode cX3_readPowers 15 = .ok (.invokevirtual 122, 3) := by decide +kernel
theorem dX3_readPowers_18 : decode cX3_readPowers 18 = .ok (.aload_n 0, 1) := by decide +kernel
theorem dX3_readPowers_19 : decode cX3_readPowers 19 = .ok (.getfield 21, 3) := by decide +kernel
theorem dX3_readPowers_22 : decode cX3_readPowers 22 = .ok (.iconst 3, 1) := by decide +kernel
theorem dX3_readPowers_23 : decode cX3_readPowers 23 = .ok (.aload_n 0, 1) := by decide +kernel
theorem dX3_readPowers_24 : decode cX3_readPowers 24 = .ok (.getfield 34, 3) := by decide +kernel
theorem dX3_readPowers_27 : decode cX3_readPowers 27 = .ok (.iload_n 2, 1) := by decide +kernel
theorem dX3_readPowers_28 : decode cX3_readPowers 28 = .ok (.aaload, 1) := by decide +kernel
theorem dX3_readPowers_29 : decode cX3_readPowers 29 = .ok (.aload_n 0, 1) := by decide +kernel
theorem dX3_readPowers_30 : decode cX3_readPowers 30 = .ok (.getfield 48, 3) := by decide +kernel
theorem dX3_readPowers_33 : decode cX3_readPowers 33 = .ok (.invokevirtual 122, 3) := by decide +kernel
theorem dX3_readPowers_36 : decode cX3_readPowers 36 = .ok (.return_, 1) := by decide +kernel
theorem dX3_holdPowers_0 : decode cX3_holdPowers 0 = .ok (.aload_n 0, 1) := by decide +kernel
theorem dX3_holdPowers_1 : decode cX3_holdPowers 1 = .ok (.getfield 51, 3) := by decide +kernel
theorem dX3_holdPowers_4 : decode cX3_holdPowers 4 = .ok (.iconst 0, 1) := by decide +kernel
theorem dX3_holdPowers_5 : decode cX3_holdPowers 5 = .ok (.aload_n 0, 1) := by decide +kernel
theorem dX3_holdPowers_6 : decode cX3_holdPowers 6 = .ok (.getfield 44, 3) := by decide +kernel
theorem dX3_holdPowers_9 : decode cX3_holdPowers 9 = .ok (.iconst 0, 1) := by decide +kernel
theorem dX3_holdPowers_10 : decode cX3_holdPowers 10 = .ok (.bipush 30, 2) := by decide +kernel
theorem dX3_holdPowers_12 : decode cX3_holdPowers 12 = .ok (.invokestatic 165, 3) := by decide +kernel
theorem dX3_holdPowers_15 : decode cX3_holdPowers 15 = .ok (.aload_n 0, 1) := by decide +kernel
theorem dX3_holdPowers_16 : decode cX3_holdPowers 16 = .ok (.getfield 21, 3) := by decide +kernel
theorem dX3_holdPowers_19 : decode cX3_holdPowers 19 = .ok (.iconst 3, 1) := by decide +kernel
theorem dX3_holdPowers_20 : decode cX3_holdPowers 20 = .ok (.aload_n 0, 1) := by decide +kernel
theorem dX3_holdPowers_21 : decode cX3_holdPowers 21 = .ok (.getfield 44, 3) := by decide +kernel
theorem dX3_holdPowers_24 : decode cX3_holdPowers 24 = .ok (.aload_n 0, 1) := by decide +kernel
theorem dX3_holdPowers_25 : decode cX3_holdPowers 25 = .ok (.getfield 51, 3) := by decide +kernel
theorem dX3_holdPowers_28 : decode cX3_holdPowers 28 = .ok (.invokevirtual 107, 3) := by decide +kernel
theorem dX3_holdPowers_31 : decode cX3_holdPowers 31 = .ok (.aload_n 0, 1) := by decide +kernel
theorem dX3_holdPowers_32 : decode cX3_holdPowers 32 = .ok (.getfield 51, 3) := by decide +kernel
theorem dX3_holdPowers_35 : decode cX3_holdPowers 35 = .ok (.invokestatic 178, 3) := by decide +kernel
theorem dX3_holdPowers_38 : decode cX3_holdPowers 38 = .ok (.aload_n 0, 1) := by decide +kernel
theorem dX3_holdPowers_39 : decode cX3_holdPowers 39 = .ok (.iload_n 1, 1) := by decide +kernel
theorem dX3_holdPowers_40 : decode cX3_holdPowers 40 = .ok (.invokevirtual 111, 3) := by decide +kernel
theorem dX3_holdPowers_43 : decode cX3_holdPowers 43 = .ok (.ireturn, 1) := by decide +kernel
theorem dX3_hold_0 : decode cX3_hold 0 = .ok (.aload_n 0, 1) := by decide +kernel
theorem dX3_hold_1 : decode cX3_hold 1 = .ok (.getfield 51, 3) := by decide +kernel
theorem dX3_hold_4 : decode cX3_hold 4 = .ok (.ldc2_w 182, 3) := by decide +kernel
theorem dX3_hold_7 : decode cX3_hold 7 = .ok (.invokestatic 158, 3) := by decide +kernel
theorem dX3_hold_10 : decode cX3_hold 10 = .ok (.ifCond .ne 6, 3) := by decide +kernel
theorem dX3_hold_13 : decode cX3_hold 13 = .ok (.bipush (-4), 2) := by decide +kernel
theorem dX3_hold_15 : decode cX3_hold 15 = .ok (.ireturn, 1) := by decide +kernel
theorem dX3_hold_16 : decode cX3_hold 16 = .ok (.aload_n 0, 1) := by decide +kernel
theorem dX3_hold_17 : decode cX3_hold 17 = .ok (.getfield 51, 3) := by decide +kernel
theorem dX3_hold_20 : decode cX3_hold 20 = .ok (.iconst 0, 1) := by decide +kernel
theorem dX3_hold_21 : decode cX3_hold 21 = .ok (.aload_n 0, 1) := by decide +kernel
theorem dX3_hold_22 : decode cX3_hold 22 = .ok (.getfield 34, 3) := by decide +kernel
theorem dX3_hold_25 : decode cX3_hold 25 = .ok (.iload_n 1, 1) := by decide +kernel
theorem dX3_hold_26 : decode cX3_hold 26 = .ok (.aaload, 1) := by decide +kernel
theorem dX3_hold_27 : decode cX3_hold 27 = .ok (.iconst 0, 1) := by decide +kernel
theorem dX3_hold_28 : decode cX3_hold 28 = .ok (.bipush 30, 2) := by decide +kernel
theorem dX3_hold_30 : decode cX3_hold 30 = .ok (.invokestatic 165, 3) := by decide +kernel
theorem dX3_hold_33 : decode cX3_hold 33 = .ok (.iconst 1, 1) := by decide +kernel
theorem dX3_hold_34 : decode cX3_hold 34 = .ok (.ireturn, 1) := by decide +kernel
theorem dX3_commonDivisor_0 : decode cX3_commonDivisor 0 = .ok (.lload_n 0, 1) := by decide +kernel
theorem dX3_commonDivisor_1 : decode cX3_commonDivisor 1 = .ok (.invokestatic 184, 3) := by decide +kernel
theorem dX3_commonDivisor_4 : decode cX3_commonDivisor 4 = .ok (.lstore 4, 2) := by decide +kernel
theorem dX3_commonDivisor_6 : decode cX3_commonDivisor 6 = .ok (.lload_n 2, 1) := by decide +kernel
theorem dX3_commonDivisor_7 : decode cX3_commonDivisor 7 = .ok (.invokestatic 184, 3) := by decide +kernel
theorem dX3_commonDivisor_10 : decode cX3_commonDivisor 10 = .ok (.lstore 6, 2) := by decide +kernel
theorem dX3_commonDivisor_12 : decode cX3_commonDivisor 12 = .ok (.iconst 0, 1) := by decide +kernel
theorem dX3_commonDivisor_13 : decode cX3_commonDivisor 13 = .ok (.istore 8, 2) := by decide +kernel
theorem dX3_commonDivisor_15 : decode cX3_commonDivisor 15 = .ok (.iload 8, 2) := by decide +kernel
theorem dX3_commonDivisor_17 : decode cX3_commonDivisor 17 = .ok (.bipush 100, 2) := by decide +kernel
theorem dX3_commonDivisor_19 : decode cX3_commonDivisor 19 = .ok (.if_icmp .ge 31, 3) := by decide +kernel
theorem dX3_commonDivisor_22 : decode cX3_commonDivisor 22 = .ok (.lload 6, 2) := by decide +kernel
theorem dX3_commonDivisor_24 : decode cX3_commonDivisor 24 = .ok (.lconst 0, 1) := by decide +kernel
theorem dX3_commonDivisor_25 : decode cX3_commonDivisor 25 = .ok (.lcmp, 1) := by decide +kernel
theorem dX3_commonDivisor_26 : decode cX3_commonDivisor 26 = .ok (.ifCond .eq 24, 3) := by decide +kernel
theorem dX3_commonDivisor_29 : decode cX3_commonDivisor 29 = .ok (.lload 4, 2) := by decide +kernel
theorem dX3_commonDivisor_31 : decode cX3_commonDivisor 31 = .ok (.lload 6, 2) := by decide +kernel
theorem dX3_commonDivisor_33 : decode cX3_commonDivisor 33 = .ok (.lrem, 1) := by decide +kernel
theorem dX3_commonDivisor_34 : decode cX3_commonDivisor 34 = .ok (.lstore 9, 2) := by decide +kernel
theorem dX3_commonDivisor_36 : decode cX3_commonDivisor 36 = .ok (.lload 6, 2) := by decide +kernel
theorem dX3_commonDivisor_38 : decode cX3_commonDivisor 38 = .ok (.lstore 4, 2) := by decide +kernel
theorem dX3_commonDivisor_40 : decode cX3_commonDivisor 40 = .ok (.lload 9, 2) := by decide +kernel
theorem dX3_commonDivisor_42 : decode cX3_commonDivisor 42 = .ok (.lstore 6, 2) := by decide +kernel
theorem dX3_commonDivisor_44 : decode cX3_commonDivisor 44 = .ok (.iinc 8 1, 3) := by decide +kernel
theorem dX3_commonDivisor_47 : decode cX3_commonDivisor 47 = .ok (.goto (-32), 3) := by decide +kernel
theorem dX3_commonDivisor_50 : decode cX3_commonDivisor 50 = .ok (.lload 4, 2) := by decide +kernel
theorem dX3_commonDivisor_52 : decode cX3_commonDivisor 52 = .ok (.lreturn, 1) := by decide +kernel
end
section
theorem dL_law_0 : decode cL_law 0 = .ok (.new 7, 3) := by decide +kernel
theorem dL_law_3 : decode cL_law 3 = .ok (.dup, 1) := by decide +kernel
theorem dL_law_4 : decode cL_law 4 = .ok (.invokespecial 9, 3) := by decide +kernel
theorem dL_law_7 : decode cL_law 7 = .ok (.astore_n 1, 1) := by decide +kernel
theorem dL_law_8 : decode cL_law 8 = .ok (.new 10, 3) := by decide +kernel
theorem dL_law_11 : decode cL_law 11 = .ok (.dup, 1) := by decide +kernel
theorem dL_law_12 : decode cL_law 12 = .ok (.invokespecial 12, 3) := by decide +kernel
theorem dL_law_15 : decode cL_law 15 = .ok (.astore_n 2, 1) := by decide +kernel
theorem dL_law_16 : decode cL_law 16 = .ok (.iconst 0, 1) := by decide +kernel
theorem dL_law_17 : decode cL_law 17 = .ok (.istore_n 3, 1) := by decide +kernel
theorem dL_law_18 : decode cL_law 18 = .ok (.iload_n 3, 1) := by decide +kernel
theorem dL_law_19 : decode cL_law 19 = .ok (.aload_n 0, 1) := by decide +kernel
theorem dL_law_20 : decode cL_law 20 = .ok (.arraylength, 1) := by decide +kernel
theorem dL_law_21 : decode cL_law 21 = .ok (.iconst 5, 1) := by decide +kernel
theorem dL_law_22 : decode cL_law 22 = .ok (.isub, 1) := by decide +kernel
theorem dL_law_23 : decode cL_law 23 = .ok (.if_icmp .gt 854, 3) := by decide +kernel
theorem dL_law_26 : decode cL_law 26 = .ok (.aload_n 0, 1) := by decide +kernel
theorem dL_law_27 : decode cL_law 27 = .ok (.iload_n 3, 1) := by decide +kernel
theorem dL_law_28 : decode cL_law 28 = .ok (.iaload, 1) := by decide +kernel
theorem dL_law_29 : decode cL_law 29 = .ok (.bipush 31, 2) := by decide +kernel
theorem dL_law_31 : decode cL_law 31 = .ok (.iand, 1) := by decide +kernel
theorem dL_law_32 : decode cL_law 32 = .ok (.tableswitch 839 0 19 #[96, 129, 162, 195, 228, 261, 314, 357, 380, 434, 477, 531, 565, 608, 641, 684, 727, 770, 793, 816], 96) := by decide +kernel
theorem dL_law_128 : decode cL_law 128 = .ok (.aload_n 1, 1) := by decide +kernel
theorem dL_law_129 : decode cL_law 129 = .ok (.aload_n 0, 1) := by decide +kernel
theorem dL_law_130 : decode cL_law 130 = .ok (.iload_n 3, 1) := by decide +kernel
theorem dL_law_131 : decode cL_law 131 = .ok (.iconst 1, 1) := by decide +kernel
theorem dL_law_132 : decode cL_law 132 = .ok (.iadd, 1) := by decide +kernel
theorem dL_law_133 : decode cL_law 133 = .ok (.iaload, 1) := by decide +kernel
theorem dL_law_134 : decode cL_law 134 = .ok (.aload_n 0, 1) := by decide +kernel
theorem dL_law_135 : decode cL_law 135 = .ok (.iload_n 3, 1) := by decide +kernel
theorem dL_law_136 : decode cL_law 136 = .ok (.iconst 2, 1) := by decide +kernel
theorem dL_law_137 : decode cL_law 137 = .ok (.iadd, 1) := by decide +kernel
theorem dL_law_138 : decode cL_law 138 = .ok (.iaload, 1) := by decide +kernel
theorem dL_law_139 : decode cL_law 139 = .ok (.invokevirtual 13, 3) := by decide +kernel
theorem dL_law_142 : decode cL_law 142 = .ok (.aload_n 2, 1) := by decide +kernel
theorem dL_law_143 : decode cL_law 143 = .ok (.aload_n 0, 1) := by decide +kernel
theorem dL_law_144 : decode cL_law 144 = .ok (.iload_n 3, 1) := by decide +kernel
theorem dL_law_145 : decode cL_law 145 = .ok (.iconst 1, 1) := by decide +kernel
theorem dL_law_146 : decode cL_law 146 = .ok (.iadd, 1) := by decide +kernel
theorem dL_law_147 : decode cL_law 147 = .ok (.iaload, 1) := by decide +kernel
theorem dL_law_148 : decode cL_law 148 = .ok (.aload_n 0, 1) := by decide +kernel
theorem dL_law_149 : decode cL_law 149 = .ok (.iload_n 3, 1) := by decide +kernel
theorem dL_law_150 : decode cL_law 150 = .ok (.iconst 2, 1) := by decide +kernel
theorem dL_law_151 : decode cL_law 151 = .ok (.iadd, 1) := by decide +kernel
theorem dL_law_152 : decode cL_law 152 = .ok (.iaload, 1) := by decide +kernel
theorem dL_law_153 : decode cL_law 153 = .ok (.invokevirtual 17, 3) := by decide +kernel
theorem dL_law_156 : decode cL_law 156 = .ok (.if_icmp .eq 715, 3) := by decide +kernel
theorem dL_law_159 : decode cL_law 159 = .ok (.iconst 0, 1) := by decide +kernel
theorem dL_law_160 : decode cL_law 160 = .ok (.ireturn, 1) := by decide +kernel
theorem dL_law_161 : decode cL_law 161 = .ok (.aload_n 1, 1) := by decide +kernel
theorem dL_law_162 : decode cL_law 162 = .ok (.aload_n 0, 1) := by decide +kernel
theorem dL_law_163 : decode cL_law 163 = .ok (.iload_n 3, 1) := by decide +kernel
theorem dL_law_164 : decode cL_law 164 = .ok (.iconst 1, 1) := by decide +kernel
theorem dL_law_165 : decode cL_law 165 = .ok (.iadd, 1) := by decide +kernel
theorem dL_law_166 : decode cL_law 166 = .ok (.iaload, 1) := by decide +kernel
theorem dL_law_167 : decode cL_law 167 = .ok (.aload_n 0, 1) := by decide +kernel
theorem dL_law_168 : decode cL_law 168 = .ok (.iload_n 3, 1) := by decide +kernel
theorem dL_law_169 : decode cL_law 169 = .ok (.iconst 2, 1) := by decide +kernel
theorem dL_law_170 : decode cL_law 170 = .ok (.iadd, 1) := by decide +kernel
theorem dL_law_171 : decode cL_law 171 = .ok (.iaload, 1) := by decide +kernel
theorem dL_law_172 : decode cL_law 172 = .ok (.invokevirtual 18, 3) := by decide +kernel
theorem dL_law_175 : decode cL_law 175 = .ok (.aload_n 2, 1) := by decide +kernel
theorem dL_law_176 : decode cL_law 176 = .ok (.aload_n 0, 1) := by decide +kernel
theorem dL_law_177 : decode cL_law 177 = .ok (.iload_n 3, 1) := by decide +kernel
theorem dL_law_178 : decode cL_law 178 = .ok (.iconst 1, 1) := by decide +kernel
theorem dL_law_179 : decode cL_law 179 = .ok (.iadd, 1) := by decide +kernel
theorem dL_law_180 : decode cL_law 180 = .ok (.iaload, 1) := by decide +kernel
theorem dL_law_181 : decode cL_law 181 = .ok (.aload_n 0, 1) := by decide +kernel
theorem dL_law_182 : decode cL_law 182 = .ok (.iload_n 3, 1) := by decide +kernel
theorem dL_law_183 : decode cL_law 183 = .ok (.iconst 2, 1) := by decide +kernel
theorem dL_law_184 : decode cL_law 184 = .ok (.iadd, 1) := by decide +kernel
theorem dL_law_185 : decode cL_law 185 = .ok (.iaload, 1) := by decide +kernel
theorem dL_law_186 : decode cL_law 186 = .ok (.invokevirtual 21, 3) := by decide +kernel
theorem dL_law_189 : decode cL_law 189 = .ok (.if_icmp .eq 682, 3) := by decide +kernel
theorem dL_law_192 : decode cL_law 192 = .ok (.iconst 0, 1) := by decide +kernel
theorem dL_law_193 : decode cL_law 193 = .ok (.ireturn, 1) := by decide +kernel
theorem dL_law_194 : decode cL_law 194 = .ok (.aload_n 1, 1) := by decide +kernel
theorem dL_law_195 : decode cL_law 195 = .ok (.aload_n 0, 1) := by decide +kernel
theorem dL_law_196 : decode cL_law 196 = .ok (.iload_n 3, 1) := by decide +kernel
theorem dL_law_197 : decode cL_law 197 = .ok (.iconst 1, 1) := by decide +kernel
theorem dL_law_198 : decode cL_law 198 = .ok (.iadd, 1) := by decide +kernel
theorem dL_law_199 : decode cL_law 199 = .ok (.iaload, 1) := by decide +kernel
theorem dL_law_200 : decode cL_law 200 = .ok (.aload_n 0, 1) := by decide +kernel
theorem dL_law_201 : decode cL_law 201 = .ok (.iload_n 3, 1) := by decide +kernel
theorem dL_law_202 : decode cL_law 202 = .ok (.iconst 2, 1) := by decide +kernel
theorem dL_law_203 : decode cL_law 203 = .ok (.iadd, 1) := by decide +kernel
theorem dL_law_204 : decode cL_law 204 = .ok (.iaload, 1) := by decide +kernel
theorem dL_law_205 : decode cL_law 205 = .ok (.invokevirtual 22, 3) := by decide +kernel
theorem dL_law_208 : decode cL_law 208 = .ok (.aload_n 2, 1) := by decide +kernel
theorem dL_law_209 : decode cL_law 209 = .ok (.aload_n 0, 1) := by decide +kernel
theorem dL_law_210 : decode cL_law 210 = .ok (.iload_n 3, 1) := by decide +kernel
theorem dL_law_211 : decode cL_law 211 = .ok (.iconst 1, 1) := by decide +kernel
theorem dL_law_212 : decode cL_law 212 = .ok (.iadd, 1) := by decide +kernel
theorem dL_law_213 : decode cL_law 213 = .ok (.iaload, 1) := by decide +kernel
theorem dL_law_214 : decode cL_law 214 = .ok (.aload_n 0, 1) := by decide +kernel
theorem dL_law_215 : decode cL_law 215 = .ok (.iload_n 3, 1) := by decide +kernel
theorem dL_law_216 : decode cL_law 216 = .ok (.iconst 2, 1) := by decide +kernel
theorem dL_law_217 : decode cL_law 217 = .ok (.iadd, 1) := by decide +kernel
theorem dL_law_218 : decode cL_law 218 = .ok (.iaload, 1) := by decide +kernel
theorem dL_law_219 : decode cL_law 219 = .ok (.invokevirtual 25, 3) := by decide +kernel
theorem dL_law_222 : decode cL_law 222 = .ok (.if_icmp .eq 649, 3) := by decide +kernel
theorem dL_law_225 : decode cL_law 225 = .ok (.iconst 0, 1) := by decide +kernel
theorem dL_law_226 : decode cL_law 226 = .ok (.ireturn, 1) := by decide +kernel
theorem dL_law_227 : decode cL_law 227 = .ok (.aload_n 1, 1) := by decide +kernel
theorem dL_law_228 : decode cL_law 228 = .ok (.aload_n 0, 1) := by decide +kernel
theorem dL_law_229 : decode cL_law 229 = .ok (.iload_n 3, 1) := by decide +kernel
theorem dL_law_230 : decode cL_law 230 = .ok (.iconst 1, 1) := by decide +kernel
theorem dL_law_231 : decode cL_law 231 = .ok (.iadd, 1) := by decide +kernel
theorem dL_law_232 : decode cL_law 232 = .ok (.iaload, 1) := by decide +kernel
theorem dL_law_233 : decode cL_law 233 = .ok (.aload_n 0, 1) := by decide +kernel
theorem dL_law_234 : decode cL_law 234 = .ok (.iload_n 3, 1) := by decide +kernel
theorem dL_law_235 : decode cL_law 235 = .ok (.iconst 2, 1) := by decide +kernel
theorem dL_law_236 : decode cL_law 236 = .ok (.iadd, 1) := by decide +kernel
theorem dL_law_237 : decode cL_law 237 = .ok (.iaload, 1) := by decide +kernel
theorem dL_law_238 : decode cL_law 238 = .ok (.invokevirtual 26, 3) := by decide +kernel
theorem dL_law_241 : decode cL_law 241 = .ok (.aload_n 2, 1) := by decide +kernel
theorem dL_law_242 : decode cL_law 242 = .ok (.aload_n 0, 1) := by decide +kernel
theorem dL_law_243 : decode cL_law 243 = .ok (.iload_n 3, 1) := by decide +kernel
theorem dL_law_244 : decode cL_law 244 = .ok (.iconst 1, 1) := by decide +kernel
theorem dL_law_245 : decode cL_law 245 = .ok (.iadd, 1) := by decide +kernel
theorem dL_law_246 : decode cL_law 246 = .ok (.iaload, 1) := by decide +kernel
theorem dL_law_247 : decode cL_law 247 = .ok (.aload_n 0, 1) := by decide +kernel
theorem dL_law_248 : decode cL_law 248 = .ok (.iload_n 3, 1) := by decide +kernel
theorem dL_law_249 : decode cL_law 249 = .ok (.iconst 2, 1) := by decide +kernel
theorem dL_law_250 : decode cL_law 250 = .ok (.iadd, 1) := by decide +kernel
theorem dL_law_251 : decode cL_law 251 = .ok (.iaload, 1) := by decide +kernel
theorem dL_law_252 : decode cL_law 252 = .ok (.invokevirtual 29, 3) := by decide +kernel
theorem dL_law_255 : decode cL_law 255 = .ok (.if_icmp .eq 616, 3) := by decide +kernel
theorem dL_law_258 : decode cL_law 258 = .ok (.iconst 0, 1) := by decide +kernel
theorem dL_law_259 : decode cL_law 259 = .ok (.ireturn, 1) := by decide +kernel
theorem dL_law_260 : decode cL_law 260 = .ok (.aload_n 1, 1) := by decide +kernel
theorem dL_law_261 : decode cL_law 261 = .ok (.aload_n 0, 1) := by decide +kernel
theorem dL_law_262 : decode cL_law 262 = .ok (.iload_n 3, 1) := by decide +kernel
theorem dL_law_263 : decode cL_law 263 = .ok (.iconst 1, 1) := by decide +kernel
theorem dL_law_264 : decode cL_law 264 = .ok (.iadd, 1) := by decide +kernel
theorem dL_law_265 : decode cL_law 265 = .ok (.iaload, 1) := by decide +kernel
theorem dL_law_266 : decode cL_law 266 = .ok (.aload_n 0, 1) := by decide +kernel
theorem dL_law_267 : decode cL_law 267 = .ok (.iload_n 3, 1) := by decide +kernel
theorem dL_law_268 : decode cL_law 268 = .ok (.iconst 2, 1) := by decide +kernel
theorem dL_law_269 : decode cL_law 269 = .ok (.iadd, 1) := by decide +kernel
theorem dL_law_270 : decode cL_law 270 = .ok (.iaload, 1) := by decide +kernel
theorem dL_law_271 : decode cL_law 271 = .ok (.invokevirtual 30, 3) := by decide +kernel
theorem dL_law_274 : decode cL_law 274 = .ok (.aload_n 2, 1) := by decide +kernel
theorem dL_law_275 : decode cL_law 275 = .ok (.aload_n 0, 1) := by decide +kernel
theorem dL_law_276 : decode cL_law 276 = .ok (.iload_n 3, 1) := by decide +kernel
theorem dL_law_277 : decode cL_law 277 = .ok (.iconst 1, 1) := by decide +kernel
theorem dL_law_278 : decode cL_law 278 = .ok (.iadd, 1) := by decide +kernel
theorem dL_law_279 : decode cL_law 279 = .ok (.iaload, 1) := by decide +kernel
theorem dL_law_280 : decode cL_law 280 = .ok (.aload_n 0, 1) := by decide +kernel
theorem dL_law_281 : decode cL_law 281 = .ok (.iload_n 3, 1) := by decide +kernel
theorem dL_law_282 : decode cL_law 282 = .ok (.iconst 2, 1) := by decide +kernel
theorem dL_law_283 : decode cL_law 283 = .ok (.iadd, 1) := by decide +kernel
theorem dL_law_284 : decode cL_law 284 = .ok (.iaload, 1) := by decide +kernel
theorem dL_law_285 : decode cL_law 285 = .ok (.invokevirtual 33, 3) := by decide +kernel
theorem dL_law_288 : decode cL_law 288 = .ok (.if_icmp .eq 583, 3) := by decide +kernel
theorem dL_law_291 : decode cL_law 291 = .ok (.iconst 0, 1) := by decide +kernel
theorem dL_law_292 : decode cL_law 292 = .ok (.ireturn, 1) := by decide +kernel
theorem dL_law_293 : decode cL_law 293 = .ok (.aload_n 1, 1) := by decide +kernel
theorem dL_law_294 : decode cL_law 294 = .ok (.aload_n 0, 1) := by decide +kernel
theorem dL_law_295 : decode cL_law 295 = .ok (.iload_n 3, 1) := by decide +kernel
theorem dL_law_296 : decode cL_law 296 = .ok (.iconst 1, 1) := by decide +kernel
theorem dL_law_297 : decode cL_law 297 = .ok (.iadd, 1) := by decide +kernel
theorem dL_law_298 : decode cL_law 298 = .ok (.iaload, 1) := by decide +kernel
theorem dL_law_299 : decode cL_law 299 = .ok (.aload_n 0, 1) := by decide +kernel
theorem dL_law_300 : decode cL_law 300 = .ok (.iload_n 3, 1) := by decide +kernel
theorem dL_law_301 : decode cL_law 301 = .ok (.iconst 2, 1) := by decide +kernel
theorem dL_law_302 : decode cL_law 302 = .ok (.iadd, 1) := by decide +kernel
theorem dL_law_303 : decode cL_law 303 = .ok (.iaload, 1) := by decide +kernel
theorem dL_law_304 : decode cL_law 304 = .ok (.aload_n 0, 1) := by decide +kernel
theorem dL_law_305 : decode cL_law 305 = .ok (.iload_n 3, 1) := by decide +kernel
theorem dL_law_306 : decode cL_law 306 = .ok (.iconst 3, 1) := by decide +kernel
theorem dL_law_307 : decode cL_law 307 = .ok (.iadd, 1) := by decide +kernel
theorem dL_law_308 : decode cL_law 308 = .ok (.iaload, 1) := by decide +kernel
theorem dL_law_309 : decode cL_law 309 = .ok (.aload_n 0, 1) := by decide +kernel
theorem dL_law_310 : decode cL_law 310 = .ok (.iload_n 3, 1) := by decide +kernel
theorem dL_law_311 : decode cL_law 311 = .ok (.iconst 4, 1) := by decide +kernel
theorem dL_law_312 : decode cL_law 312 = .ok (.iadd, 1) := by decide +kernel
theorem dL_law_313 : decode cL_law 313 = .ok (.iaload, 1) := by decide +kernel
theorem dL_law_314 : decode cL_law 314 = .ok (.invokevirtual 34, 3) := by decide +kernel
theorem dL_law_317 : decode cL_law 317 = .ok (.aload_n 2, 1) := by decide +kernel
theorem dL_law_318 : decode cL_law 318 = .ok (.aload_n 0, 1) := by decide +kernel
theorem dL_law_319 : decode cL_law 319 = .ok (.iload_n 3, 1) := by decide +kernel
theorem dL_law_320 : decode cL_law 320 = .ok (.iconst 1, 1) := by decide +kernel
theorem dL_law_321 : decode cL_law 321 = .ok (.iadd, 1) := by decide +kernel
theorem dL_law_322 : decode cL_law 322 = .ok (.iaload, 1) := by decide +kernel
theorem dL_law_323 : decode cL_law 323 = .ok (.aload_n 0, 1) := by decide +kernel
theorem dL_law_324 : decode cL_law 324 = .ok (.iload_n 3, 1) := by decide +kernel
theorem dL_law_325 : decode cL_law 325 = .ok (.iconst 2, 1) := by decide +kernel
theorem dL_law_326 : decode cL_law 326 = .ok (.iadd, 1) := by decide +kernel
theorem dL_law_327 : decode cL_law 327 = .ok (.iaload, 1) := by decide +kernel
theorem dL_law_328 : decode cL_law 328 = .ok (.aload_n 0, 1) := by decide +kernel
theorem dL_law_329 : decode cL_law 329 = .ok (.iload_n 3, 1) := by decide +kernel
theorem dL_law_330 : decode cL_law 330 = .ok (.iconst 3, 1) := by decide +kernel
theorem dL_law_331 : decode cL_law 331 = .ok (.iadd, 1) := by decide +kernel
theorem dL_law_332 : decode cL_law 332 = .ok (.iaload, 1) := by decide +kernel
theorem dL_law_333 : decode cL_law 333 = .ok (.aload_n 0, 1) := by decide +kernel
theorem dL_law_334 : decode cL_law 334 = .ok (.iload_n 3, 1) := by decide +kernel
theorem dL_law_335 : decode cL_law 335 = .ok (.iconst 4, 1) := by decide +kernel
theorem dL_law_336 : decode cL_law 336 = .ok (.iadd, 1) := by decide +kernel
theorem dL_law_337 : decode cL_law 337 = .ok (.iaload, 1) := by decide +kernel
theorem dL_law_338 : decode cL_law 338 = .ok (.invokevirtual 38, 3) := by decide +kernel
theorem dL_law_341 : decode cL_law 341 = .ok (.if_icmp .eq 530, 3) := by decide +kernel
theorem dL_law_344 : decode cL_law 344 = .ok (.iconst 0, 1) := by decide +kernel
theorem dL_law_345 : decode cL_law 345 = .ok (.ireturn, 1) := by decide +kernel
theorem dL_law_346 : decode cL_law 346 = .ok (.aload_n 1, 1) := by decide +kernel
theorem dL_law_347 : decode cL_law 347 = .ok (.aload_n 0, 1) := by decide +kernel
theorem dL_law_348 : decode cL_law 348 = .ok (.iload_n 3, 1) := by decide +kernel
theorem dL_law_349 : decode cL_law 349 = .ok (.iconst 1, 1) := by decide +kernel
theorem dL_law_350 : decode cL_law 350 = .ok (.iadd, 1) := by decide +kernel
theorem dL_law_351 : decode cL_law 351 = .ok (.iaload, 1) := by decide +kernel
theorem dL_law_352 : decode cL_law 352 = .ok (.aload_n 0, 1) := by decide +kernel
theorem dL_law_353 : decode cL_law 353 = .ok (.iload_n 3, 1) := by decide +kernel
theorem dL_law_354 : decode cL_law 354 = .ok (.iconst 2, 1) := by decide +kernel
theorem dL_law_355 : decode cL_law 355 = .ok (.iadd, 1) := by decide +kernel
theorem dL_law_356 : decode cL_law 356 = .ok (.iaload, 1) := by decide +kernel
theorem dL_law_357 : decode cL_law 357 = .ok (.aload_n 0, 1) := by decide +kernel
theorem dL_law_358 : decode cL_law 358 = .ok (.iload_n 3, 1) := by decide +kernel
theorem dL_law_359 : decode cL_law 359 = .ok (.iconst 3, 1) := by decide +kernel
theorem dL_law_360 : decode cL_law 360 = .ok (.iadd, 1) := by decide +kernel
theorem dL_law_361 : decode cL_law 361 = .ok (.iaload, 1) := by decide +kernel
theorem dL_law_362 : decode cL_law 362 = .ok (.invokevirtual 39, 3) := by decide +kernel
theorem dL_law_365 : decode cL_law 365 = .ok (.aload_n 2, 1) := by decide +kernel
theorem dL_law_366 : decode cL_law 366 = .ok (.aload_n 0, 1) := by decide +kernel
theorem dL_law_367 : decode cL_law 367 = .ok (.iload_n 3, 1) := by decide +kernel
theorem dL_law_368 : decode cL_law 368 = .ok (.iconst 1, 1) := by decide +kernel
theorem dL_law_369 : decode cL_law 369 = .ok (.iadd, 1) := by decide +kernel
theorem dL_law_370 : decode cL_law 370 = .ok (.iaload, 1) := by decide +kernel
theorem dL_law_371 : decode cL_law 371 = .ok (.aload_n 0, 1) := by decide +kernel
theorem dL_law_372 : decode cL_law 372 = .ok (.iload_n 3, 1) := by decide +kernel
theorem dL_law_373 : decode cL_law 373 = .ok (.iconst 2, 1) := by decide +kernel
theorem dL_law_374 : decode cL_law 374 = .ok (.iadd, 1) := by decide +kernel
theorem dL_law_375 : decode cL_law 375 = .ok (.iaload, 1) := by decide +kernel
theorem dL_law_376 : decode cL_law 376 = .ok (.aload_n 0, 1) := by decide +kernel
theorem dL_law_377 : decode cL_law 377 = .ok (.iload_n 3, 1) := by decide +kernel
theorem dL_law_378 : decode cL_law 378 = .ok (.iconst 3, 1) := by decide +kernel
theorem dL_law_379 : decode cL_law 379 = .ok (.iadd, 1) := by decide +kernel
theorem dL_law_380 : decode cL_law 380 = .ok (.iaload, 1) := by decide +kernel
theorem dL_law_381 : decode cL_law 381 = .ok (.invokevirtual 43, 3) := by decide +kernel
theorem dL_law_384 : decode cL_law 384 = .ok (.if_icmp .eq 487, 3) := by decide +kernel
theorem dL_law_387 : decode cL_law 387 = .ok (.iconst 0, 1) := by decide +kernel
theorem dL_law_388 : decode cL_law 388 = .ok (.ireturn, 1) := by decide +kernel
theorem dL_law_389 : decode cL_law 389 = .ok (.aload_n 1, 1) := by decide +kernel
theorem dL_law_390 : decode cL_law 390 = .ok (.aload_n 0, 1) := by decide +kernel
theorem dL_law_391 : decode cL_law 391 = .ok (.iload_n 3, 1) := by decide +kernel
theorem dL_law_392 : decode cL_law 392 = .ok (.iconst 1, 1) := by decide +kernel
theorem dL_law_393 : decode cL_law 393 = .ok (.iadd, 1) := by decide +kernel
theorem dL_law_394 : decode cL_law 394 = .ok (.iaload, 1) := by decide +kernel
theorem dL_law_395 : decode cL_law 395 = .ok (.invokevirtual 44, 3) := by decide +kernel
theorem dL_law_398 : decode cL_law 398 = .ok (.aload_n 2, 1) := by decide +kernel
theorem dL_law_399 : decode cL_law 399 = .ok (.aload_n 0, 1) := by decide +kernel
theorem dL_law_400 : decode cL_law 400 = .ok (.iload_n 3, 1) := by decide +kernel
theorem dL_law_401 : decode cL_law 401 = .ok (.iconst 1, 1) := by decide +kernel
theorem dL_law_402 : decode cL_law 402 = .ok (.iadd, 1) := by decide +kernel
theorem dL_law_403 : decode cL_law 403 = .ok (.iaload, 1) := by decide +kernel
theorem dL_law_404 : decode cL_law 404 = .ok (.invokevirtual 48, 3) := by decide +kernel
theorem dL_law_407 : decode cL_law 407 = .ok (.if_icmp .eq 464, 3) := by decide +kernel
theorem dL_law_410 : decode cL_law 410 = .ok (.iconst 0, 1) := by decide +kernel
theorem dL_law_411 : decode cL_law 411 = .ok (.ireturn, 1) := by decide +kernel
theorem dL_law_412 : decode cL_law 412 = .ok (.aload_n 1, 1) := by decide +kernel
theorem dL_law_413 : decode cL_law 413 = .ok (.aload_n 0, 1) := by decide +kernel
theorem dL_law_414 : decode cL_law 414 = .ok (.iload_n 3, 1) := by decide +kernel
theorem dL_law_415 : decode cL_law 415 = .ok (.iconst 1, 1) := by decide +kernel
theorem dL_law_416 : decode cL_law 416 = .ok (.iadd, 1) := by decide +kernel
theorem dL_law_417 : decode cL_law 417 = .ok (.iaload, 1) := by decide +kernel
theorem dL_law_418 : decode cL_law 418 = .ok (.aload_n 0, 1) := by decide +kernel
theorem dL_law_419 : decode cL_law 419 = .ok (.iload_n 3, 1) := by decide +kernel
theorem dL_law_420 : decode cL_law 420 = .ok (.iconst 2, 1) := by decide +kernel
theorem dL_law_421 : decode cL_law 421 = .ok (.iadd, 1) := by decide +kernel
theorem dL_law_422 : decode cL_law 422 = .ok (.iaload, 1) := by decide +kernel
theorem dL_law_423 : decode cL_law 423 = .ok (.aload_n 0, 1) := by decide +kernel
theorem dL_law_424 : decode cL_law 424 = .ok (.iload_n 3, 1) := by decide +kernel
theorem dL_law_425 : decode cL_law 425 = .ok (.iconst 3, 1) := by decide +kernel
theorem dL_law_426 : decode cL_law 426 = .ok (.iadd, 1) := by decide +kernel
theorem dL_law_427 : decode cL_law 427 = .ok (.iaload, 1) := by decide +kernel
theorem dL_law_428 : decode cL_law 428 = .ok (.aload_n 0, 1) := by decide +kernel
theorem dL_law_429 : decode cL_law 429 = .ok (.iload_n 3, 1) := by decide +kernel
theorem dL_law_430 : decode cL_law 430 = .ok (.iconst 4, 1) := by decide +kernel
theorem dL_law_431 : decode cL_law 431 = .ok (.iadd, 1) := by decide +kernel
theorem dL_law_432 : decode cL_law 432 = .ok (.iaload, 1) := by decide +kernel
theorem dL_law_433 : decode cL_law 433 = .ok (.invokevirtual 49, 3) := by decide +kernel
theorem dL_law_436 : decode cL_law 436 = .ok (.aload_n 2, 1) := by decide +kernel
theorem dL_law_437 : decode cL_law 437 = .ok (.aload_n 0, 1) := by decide +kernel
theorem dL_law_438 : decode cL_law 438 = .ok (.iload_n 3, 1) := by decide +kernel
theorem dL_law_439 : decode cL_law 439 = .ok (.iconst 1, 1) := by decide +kernel
theorem dL_law_440 : decode cL_law 440 = .ok (.iadd, 1) := by decide +kernel
theorem dL_law_441 : decode cL_law 441 = .ok (.iaload, 1) := by decide +kernel
theorem dL_law_442 : decode cL_law 442 = .ok (.aload_n 0, 1) := by decide +kernel
theorem dL_law_443 : decode cL_law 443 = .ok (.iload_n 3, 1) := by decide +kernel
theorem dL_law_444 : decode cL_law 444 = .ok (.iconst 2, 1) := by decide +kernel
theorem dL_law_445 : decode cL_law 445 = .ok (.iadd, 1) := by decide +kernel
theorem dL_law_446 : decode cL_law 446 = .ok (.iaload, 1) := by decide +kernel
theorem dL_law_447 : decode cL_law 447 = .ok (.aload_n 0, 1) := by decide +kernel
theorem dL_law_448 : decode cL_law 448 = .ok (.iload_n 3, 1) := by decide +kernel
theorem dL_law_449 : decode cL_law 449 = .ok (.iconst 3, 1) := by decide +kernel
theorem dL_law_450 : decode cL_law 450 = .ok (.iadd, 1) := by decide +kernel
theorem dL_law_451 : decode cL_law 451 = .ok (.iaload, 1) := by decide +kernel
theorem dL_law_452 : decode cL_law 452 = .ok (.aload_n 0, 1) := by decide +kernel
theorem dL_law_453 : decode cL_law 453 = .ok (.iload_n 3, 1) := by decide +kernel
theorem dL_law_454 : decode cL_law 454 = .ok (.iconst 4, 1) := by decide +kernel
theorem dL_law_455 : decode cL_law 455 = .ok (.iadd, 1) := by decide +kernel
theorem dL_law_456 : decode cL_law 456 = .ok (.iaload, 1) := by decide +kernel
theorem dL_law_457 : decode cL_law 457 = .ok (.invokevirtual 53, 3) := by decide +kernel
theorem dL_law_460 : decode cL_law 460 = .ok (.lcmp, 1) := by decide +kernel
theorem dL_law_461 : decode cL_law 461 = .ok (.ifCond .eq 410, 3) := by decide +kernel
theorem dL_law_464 : decode cL_law 464 = .ok (.iconst 0, 1) := by decide +kernel
theorem dL_law_465 : decode cL_law 465 = .ok (.ireturn, 1) := by decide +kernel
theorem dL_law_466 : decode cL_law 466 = .ok (.aload_n 1, 1) := by decide +kernel
theorem dL_law_467 : decode cL_law 467 = .ok (.aload_n 0, 1) := by decide +kernel
theorem dL_law_468 : decode cL_law 468 = .ok (.iload_n 3, 1) := by decide +kernel
theorem dL_law_469 : decode cL_law 469 = .ok (.iconst 1, 1) := by decide +kernel
theorem dL_law_470 : decode cL_law 470 = .ok (.iadd, 1) := by decide +kernel
theorem dL_law_471 : decode cL_law 471 = .ok (.iaload, 1) := by decide +kernel
theorem dL_law_472 : decode cL_law 472 = .ok (.aload_n 0, 1) := by decide +kernel
theorem dL_law_473 : decode cL_law 473 = .ok (.iload_n 3, 1) := by decide +kernel
theorem dL_law_474 : decode cL_law 474 = .ok (.iconst 2, 1) := by decide +kernel
theorem dL_law_475 : decode cL_law 475 = .ok (.iadd, 1) := by decide +kernel
theorem dL_law_476 : decode cL_law 476 = .ok (.iaload, 1) := by decide +kernel
theorem dL_law_477 : decode cL_law 477 = .ok (.aload_n 0, 1) := by decide +kernel
theorem dL_law_478 : decode cL_law 478 = .ok (.iload_n 3, 1) := by decide +kernel
theorem dL_law_479 : decode cL_law 479 = .ok (.iconst 3, 1) := by decide +kernel
theorem dL_law_480 : decode cL_law 480 = .ok (.iadd, 1) := by decide +kernel
theorem dL_law_481 : decode cL_law 481 = .ok (.iaload, 1) := by decide +kernel
theorem dL_law_482 : decode cL_law 482 = .ok (.invokevirtual 54, 3) := by decide +kernel
theorem dL_law_485 : decode cL_law 485 = .ok (.aload_n 2, 1) := by decide +kernel
theorem dL_law_486 : decode cL_law 486 = .ok (.aload_n 0, 1) := by decide +kernel
theorem dL_law_487 : decode cL_law 487 = .ok (.iload_n 3, 1) := by decide +kernel
theorem dL_law_488 : decode cL_law 488 = .ok (.iconst 1, 1) := by decide +kernel
theorem dL_law_489 : decode cL_law 489 = .ok (.iadd, 1) := by decide +kernel
theorem dL_law_490 : decode cL_law 490 = .ok (.iaload, 1) := by decide +kernel
theorem dL_law_491 : decode cL_law 491 = .ok (.aload_n 0, 1) := by decide +kernel
theorem dL_law_492 : decode cL_law 492 = .ok (.iload_n 3, 1) := by decide +kernel
theorem dL_law_493 : decode cL_law 493 = .ok (.iconst 2, 1) := by decide +kernel
theorem dL_law_494 : decode cL_law 494 = .ok (.iadd, 1) := by decide +kernel
theorem dL_law_495 : decode cL_law 495 = .ok (.iaload, 1) := by decide +kernel
theorem dL_law_496 : decode cL_law 496 = .ok (.aload_n 0, 1) := by decide +kernel
theorem dL_law_497 : decode cL_law 497 = .ok (.iload_n 3, 1) := by decide +kernel
theorem dL_law_498 : decode cL_law 498 = .ok (.iconst 3, 1) := by decide +kernel
theorem dL_law_499 : decode cL_law 499 = .ok (.iadd, 1) := by decide +kernel
theorem dL_law_500 : decode cL_law 500 = .ok (.iaload, 1) := by decide +kernel
theorem dL_law_501 : decode cL_law 501 = .ok (.invokevirtual 57, 3) := by decide +kernel
theorem dL_law_504 : decode cL_law 504 = .ok (.if_icmp .eq 367, 3) := by decide +kernel
theorem dL_law_507 : decode cL_law 507 = .ok (.iconst 0, 1) := by decide +kernel
theorem dL_law_508 : decode cL_law 508 = .ok (.ireturn, 1) := by decide +kernel
theorem dL_law_509 : decode cL_law 509 = .ok (.aload_n 1, 1) := by decide +kernel
theorem dL_law_510 : decode cL_law 510 = .ok (.aload_n 0, 1) := by decide +kernel
theorem dL_law_511 : decode cL_law 511 = .ok (.iload_n 3, 1) := by decide +kernel
theorem dL_law_512 : decode cL_law 512 = .ok (.iconst 1, 1) := by decide +kernel
theorem dL_law_513 : decode cL_law 513 = .ok (.iadd, 1) := by decide +kernel
theorem dL_law_514 : decode cL_law 514 = .ok (.iaload, 1) := by decide +kernel
theorem dL_law_515 : decode cL_law 515 = .ok (.aload_n 0, 1) := by decide +kernel
theorem dL_law_516 : decode cL_law 516 = .ok (.iload_n 3, 1) := by decide +kernel
theorem dL_law_517 : decode cL_law 517 = .ok (.iconst 2, 1) := by decide +kernel
theorem dL_law_518 : decode cL_law 518 = .ok (.iadd, 1) := by decide +kernel
theorem dL_law_519 : decode cL_law 519 = .ok (.iaload, 1) := by decide +kernel
theorem dL_law_520 : decode cL_law 520 = .ok (.aload_n 0, 1) := by decide +kernel
theorem dL_law_521 : decode cL_law 521 = .ok (.iload_n 3, 1) := by decide +kernel
theorem dL_law_522 : decode cL_law 522 = .ok (.iconst 3, 1) := by decide +kernel
theorem dL_law_523 : decode cL_law 523 = .ok (.iadd, 1) := by decide +kernel
theorem dL_law_524 : decode cL_law 524 = .ok (.iaload, 1) := by decide +kernel
theorem dL_law_525 : decode cL_law 525 = .ok (.aload_n 0, 1) := by decide +kernel
theorem dL_law_526 : decode cL_law 526 = .ok (.iload_n 3, 1) := by decide +kernel
theorem dL_law_527 : decode cL_law 527 = .ok (.iconst 4, 1) := by decide +kernel
theorem dL_law_528 : decode cL_law 528 = .ok (.iadd, 1) := by decide +kernel
theorem dL_law_529 : decode cL_law 529 = .ok (.iaload, 1) := by decide +kernel
theorem dL_law_530 : decode cL_law 530 = .ok (.invokevirtual 58, 3) := by decide +kernel
theorem dL_law_533 : decode cL_law 533 = .ok (.aload_n 2, 1) := by decide +kernel
theorem dL_law_534 : decode cL_law 534 = .ok (.aload_n 0, 1) := by decide +kernel
theorem dL_law_535 : decode cL_law 535 = .ok (.iload_n 3, 1) := by decide +kernel
theorem dL_law_536 : decode cL_law 536 = .ok (.iconst 1, 1) := by decide +kernel
theorem dL_law_537 : decode cL_law 537 = .ok (.iadd, 1) := by decide +kernel
theorem dL_law_538 : decode cL_law 538 = .ok (.iaload, 1) := by decide +kernel
theorem dL_law_539 : decode cL_law 539 = .ok (.aload_n 0, 1) := by decide +kernel
theorem dL_law_540 : decode cL_law 540 = .ok (.iload_n 3, 1) := by decide +kernel
theorem dL_law_541 : decode cL_law 541 = .ok (.iconst 2, 1) := by decide +kernel
theorem dL_law_542 : decode cL_law 542 = .ok (.iadd, 1) := by decide +kernel
theorem dL_law_543 : decode cL_law 543 = .ok (.iaload, 1) := by decide +kernel
theorem dL_law_544 : decode cL_law 544 = .ok (.aload_n 0, 1) := by decide +kernel
theorem dL_law_545 : decode cL_law 545 = .ok (.iload_n 3, 1) := by decide +kernel
theorem dL_law_546 : decode cL_law 546 = .ok (.iconst 3, 1) := by decide +kernel
theorem dL_law_547 : decode cL_law 547 = .ok (.iadd, 1) := by decide +kernel
theorem dL_law_548 : decode cL_law 548 = .ok (.iaload, 1) := by decide +kernel
theorem dL_law_549 : decode cL_law 549 = .ok (.aload_n 0, 1) := by decide +kernel
theorem dL_law_550 : decode cL_law 550 = .ok (.iload_n 3, 1) := by decide +kernel
theorem dL_law_551 : decode cL_law 551 = .ok (.iconst 4, 1) := by decide +kernel
theorem dL_law_552 : decode cL_law 552 = .ok (.iadd, 1) := by decide +kernel
theorem dL_law_553 : decode cL_law 553 = .ok (.iaload, 1) := by decide +kernel
theorem dL_law_554 : decode cL_law 554 = .ok (.invokevirtual 61, 3) := by decide +kernel
theorem dL_law_557 : decode cL_law 557 = .ok (.lcmp, 1) := by decide +kernel
theorem dL_law_558 : decode cL_law 558 = .ok (.ifCond .eq 313, 3) := by decide +kernel
theorem dL_law_561 : decode cL_law 561 = .ok (.iconst 0, 1) := by decide +kernel
theorem dL_law_562 : decode cL_law 562 = .ok (.ireturn, 1) := by decide +kernel
theorem dL_law_563 : decode cL_law 563 = .ok (.aload_n 1, 1) := by decide +kernel
theorem dL_law_564 : decode cL_law 564 = .ok (.aload_n 0, 1) := by decide +kernel
theorem dL_law_565 : decode cL_law 565 = .ok (.iload_n 3, 1) := by decide +kernel
theorem dL_law_566 : decode cL_law 566 = .ok (.iconst 1, 1) := by decide +kernel
theorem dL_law_567 : decode cL_law 567 = .ok (.iadd, 1) := by decide +kernel
theorem dL_law_568 : decode cL_law 568 = .ok (.iaload, 1) := by decide +kernel
theorem dL_law_569 : decode cL_law 569 = .ok (.aload_n 0, 1) := by decide +kernel
theorem dL_law_570 : decode cL_law 570 = .ok (.iload_n 3, 1) := by decide +kernel
theorem dL_law_571 : decode cL_law 571 = .ok (.iconst 2, 1) := by decide +kernel
theorem dL_law_572 : decode cL_law 572 = .ok (.iadd, 1) := by decide +kernel
theorem dL_law_573 : decode cL_law 573 = .ok (.iaload, 1) := by decide +kernel
theorem dL_law_574 : decode cL_law 574 = .ok (.invokevirtual 62, 3) := by decide +kernel
theorem dL_law_577 : decode cL_law 577 = .ok (.aload_n 2, 1) := by decide +kernel
theorem dL_law_578 : decode cL_law 578 = .ok (.aload_n 0, 1) := by decide +kernel
theorem dL_law_579 : decode cL_law 579 = .ok (.iload_n 3, 1) := by decide +kernel
theorem dL_law_580 : decode cL_law 580 = .ok (.iconst 1, 1) := by decide +kernel
theorem dL_law_581 : decode cL_law 581 = .ok (.iadd, 1) := by decide +kernel
theorem dL_law_582 : decode cL_law 582 = .ok (.iaload, 1) := by decide +kernel
theorem dL_law_583 : decode cL_law 583 = .ok (.aload_n 0, 1) := by decide +kernel
theorem dL_law_584 : decode cL_law 584 = .ok (.iload_n 3, 1) := by decide +kernel
theorem dL_law_585 : decode cL_law 585 = .ok (.iconst 2, 1) := by decide +kernel
theorem dL_law_586 : decode cL_law 586 = .ok (.iadd, 1) := by decide +kernel
theorem dL_law_587 : decode cL_law 587 = .ok (.iaload, 1) := by decide +kernel
theorem dL_law_588 : decode cL_law 588 = .ok (.invokevirtual 66, 3) := by decide +kernel
theorem dL_law_591 : decode cL_law 591 = .ok (.lcmp, 1) := by decide +kernel
theorem dL_law_592 : decode cL_law 592 = .ok (.ifCond .eq 279, 3) := by decide +kernel
theorem dL_law_595 : decode cL_law 595 = .ok (.iconst 0, 1) := by decide +kernel
theorem dL_law_596 : decode cL_law 596 = .ok (.ireturn, 1) := by decide +kernel
theorem dL_law_597 : decode cL_law 597 = .ok (.aload_n 1, 1) := by decide +kernel
theorem dL_law_598 : decode cL_law 598 = .ok (.aload_n 0, 1) := by decide +kernel
theorem dL_law_599 : decode cL_law 599 = .ok (.iload_n 3, 1) := by decide +kernel
theorem dL_law_600 : decode cL_law 600 = .ok (.iconst 1, 1) := by decide +kernel
theorem dL_law_601 : decode cL_law 601 = .ok (.iadd, 1) := by decide +kernel
theorem dL_law_602 : decode cL_law 602 = .ok (.iaload, 1) := by decide +kernel
theorem dL_law_603 : decode cL_law 603 = .ok (.aload_n 0, 1) := by decide +kernel
theorem dL_law_604 : decode cL_law 604 = .ok (.iload_n 3, 1) := by decide +kernel
theorem dL_law_605 : decode cL_law 605 = .ok (.iconst 2, 1) := by decide +kernel
theorem dL_law_606 : decode cL_law 606 = .ok (.iadd, 1) := by decide +kernel
theorem dL_law_607 : decode cL_law 607 = .ok (.iaload, 1) := by decide +kernel
theorem dL_law_608 : decode cL_law 608 = .ok (.aload_n 0, 1) := by decide +kernel
theorem dL_law_609 : decode cL_law 609 = .ok (.iload_n 3, 1) := by decide +kernel
theorem dL_law_610 : decode cL_law 610 = .ok (.iconst 3, 1) := by decide +kernel
theorem dL_law_611 : decode cL_law 611 = .ok (.iadd, 1) := by decide +kernel
theorem dL_law_612 : decode cL_law 612 = .ok (.iaload, 1) := by decide +kernel
theorem dL_law_613 : decode cL_law 613 = .ok (.invokevirtual 67, 3) := by decide +kernel
theorem dL_law_616 : decode cL_law 616 = .ok (.aload_n 2, 1) := by decide +kernel
theorem dL_law_617 : decode cL_law 617 = .ok (.aload_n 0, 1) := by decide +kernel
theorem dL_law_618 : decode cL_law 618 = .ok (.iload_n 3, 1) := by decide +kernel
theorem dL_law_619 : decode cL_law 619 = .ok (.iconst 1, 1) := by decide +kernel
theorem dL_law_620 : decode cL_law 620 = .ok (.iadd, 1) := by decide +kernel
theorem dL_law_621 : decode cL_law 621 = .ok (.iaload, 1) := by decide +kernel
theorem dL_law_622 : decode cL_law 622 = .ok (.aload_n 0, 1) := by decide +kernel
theorem dL_law_623 : decode cL_law 623 = .ok (.iload_n 3, 1) := by decide +kernel
theorem dL_law_624 : decode cL_law 624 = .ok (.iconst 2, 1) := by decide +kernel
theorem dL_law_625 : decode cL_law 625 = .ok (.iadd, 1) := by decide +kernel
theorem dL_law_626 : decode cL_law 626 = .ok (.iaload, 1) := by decide +kernel
theorem dL_law_627 : decode cL_law 627 = .ok (.aload_n 0, 1) := by decide +kernel
theorem dL_law_628 : decode cL_law 628 = .ok (.iload_n 3, 1) := by decide +kernel
theorem dL_law_629 : decode cL_law 629 = .ok (.iconst 3, 1) := by decide +kernel
theorem dL_law_630 : decode cL_law 630 = .ok (.iadd, 1) := by decide +kernel
theorem dL_law_631 : decode cL_law 631 = .ok (.iaload, 1) := by decide +kernel
theorem dL_law_632 : decode cL_law 632 = .ok (.invokevirtual 70, 3) := by decide +kernel
theorem dL_law_635 : decode cL_law 635 = .ok (.if_icmp .eq 236, 3) := by decide +kernel
theorem dL_law_638 : decode cL_law 638 = .ok (.iconst 0, 1) := by decide +kernel
theorem dL_law_639 : decode cL_law 639 = .ok (.ireturn, 1) := by decide +kernel
theorem dL_law_640 : decode cL_law 640 = .ok (.aload_n 1, 1) := by decide +kernel
theorem dL_law_641 : decode cL_law 641 = .ok (.aload_n 0, 1) := by decide +kernel
theorem dL_law_642 : decode cL_law 642 = .ok (.iload_n 3, 1) := by decide +kernel
theorem dL_law_643 : decode cL_law 643 = .ok (.iconst 1, 1) := by decide +kernel
theorem dL_law_644 : decode cL_law 644 = .ok (.iadd, 1) := by decide +kernel
theorem dL_law_645 : decode cL_law 645 = .ok (.iaload, 1) := by decide +kernel
theorem dL_law_646 : decode cL_law 646 = .ok (.aload_n 0, 1) := by decide +kernel
theorem dL_law_647 : decode cL_law 647 = .ok (.iload_n 3, 1) := by decide +kernel
theorem dL_law_648 : decode cL_law 648 = .ok (.iconst 2, 1) := by decide +kernel
theorem dL_law_649 : decode cL_law 649 = .ok (.iadd, 1) := by decide +kernel
theorem dL_law_650 : decode cL_law 650 = .ok (.iaload, 1) := by decide +kernel
theorem dL_law_651 : decode cL_law 651 = .ok (.invokevirtual 71, 3) := by decide +kernel
theorem dL_law_654 : decode cL_law 654 = .ok (.aload_n 2, 1) := by decide +kernel
theorem dL_law_655 : decode cL_law 655 = .ok (.aload_n 0, 1) := by decide +kernel
theorem dL_law_656 : decode cL_law 656 = .ok (.iload_n 3, 1) := by decide +kernel
theorem dL_law_657 : decode cL_law 657 = .ok (.iconst 1, 1) := by decide +kernel
theorem dL_law_658 : decode cL_law 658 = .ok (.iadd, 1) := by decide +kernel
theorem dL_law_659 : decode cL_law 659 = .ok (.iaload, 1) := by decide +kernel
theorem dL_law_660 : decode cL_law 660 = .ok (.aload_n 0, 1) := by decide +kernel
theorem dL_law_661 : decode cL_law 661 = .ok (.iload_n 3, 1) := by decide +kernel
theorem dL_law_662 : decode cL_law 662 = .ok (.iconst 2, 1) := by decide +kernel
theorem dL_law_663 : decode cL_law 663 = .ok (.iadd, 1) := by decide +kernel
theorem dL_law_664 : decode cL_law 664 = .ok (.iaload, 1) := by decide +kernel
theorem dL_law_665 : decode cL_law 665 = .ok (.invokevirtual 74, 3) := by decide +kernel
theorem dL_law_668 : decode cL_law 668 = .ok (.if_icmp .eq 203, 3) := by decide +kernel
theorem dL_law_671 : decode cL_law 671 = .ok (.iconst 0, 1) := by decide +kernel
theorem dL_law_672 : decode cL_law 672 = .ok (.ireturn, 1) := by decide +kernel
theorem dL_law_673 : decode cL_law 673 = .ok (.aload_n 1, 1) := by decide +kernel
theorem dL_law_674 : decode cL_law 674 = .ok (.aload_n 0, 1) := by decide +kernel
theorem dL_law_675 : decode cL_law 675 = .ok (.iload_n 3, 1) := by decide +kernel
theorem dL_law_676 : decode cL_law 676 = .ok (.iconst 1, 1) := by decide +kernel
theorem dL_law_677 : decode cL_law 677 = .ok (.iadd, 1) := by decide +kernel
theorem dL_law_678 : decode cL_law 678 = .ok (.iaload, 1) := by decide +kernel
theorem dL_law_679 : decode cL_law 679 = .ok (.aload_n 0, 1) := by decide +kernel
theorem dL_law_680 : decode cL_law 680 = .ok (.iload_n 3, 1) := by decide +kernel
theorem dL_law_681 : decode cL_law 681 = .ok (.iconst 2, 1) := by decide +kernel
theorem dL_law_682 : decode cL_law 682 = .ok (.iadd, 1) := by decide +kernel
theorem dL_law_683 : decode cL_law 683 = .ok (.iaload, 1) := by decide +kernel
theorem dL_law_684 : decode cL_law 684 = .ok (.aload_n 0, 1) := by decide +kernel
theorem dL_law_685 : decode cL_law 685 = .ok (.iload_n 3, 1) := by decide +kernel
theorem dL_law_686 : decode cL_law 686 = .ok (.iconst 3, 1) := by decide +kernel
theorem dL_law_687 : decode cL_law 687 = .ok (.iadd, 1) := by decide +kernel
theorem dL_law_688 : decode cL_law 688 = .ok (.iaload, 1) := by decide +kernel
theorem dL_law_689 : decode cL_law 689 = .ok (.invokevirtual 75, 3) := by decide +kernel
theorem dL_law_692 : decode cL_law 692 = .ok (.aload_n 2, 1) := by decide +kernel
theorem dL_law_693 : decode cL_law 693 = .ok (.aload_n 0, 1) := by decide +kernel
theorem dL_law_694 : decode cL_law 694 = .ok (.iload_n 3, 1) := by decide +kernel
theorem dL_law_695 : decode cL_law 695 = .ok (.iconst 1, 1) := by decide +kernel
theorem dL_law_696 : decode cL_law 696 = .ok (.iadd, 1) := by decide +kernel
theorem dL_law_697 : decode cL_law 697 = .ok (.iaload, 1) := by decide +kernel
theorem dL_law_698 : decode cL_law 698 = .ok (.aload_n 0, 1) := by decide +kernel
theorem dL_law_699 : decode cL_law 699 = .ok (.iload_n 3, 1) := by decide +kernel
theorem dL_law_700 : decode cL_law 700 = .ok (.iconst 2, 1) := by decide +kernel
theorem dL_law_701 : decode cL_law 701 = .ok (.iadd, 1) := by decide +kernel
theorem dL_law_702 : decode cL_law 702 = .ok (.iaload, 1) := by decide +kernel
theorem dL_law_703 : decode cL_law 703 = .ok (.aload_n 0, 1) := by decide +kernel
theorem dL_law_704 : decode cL_law 704 = .ok (.iload_n 3, 1) := by decide +kernel
theorem dL_law_705 : decode cL_law 705 = .ok (.iconst 3, 1) := by decide +kernel
theorem dL_law_706 : decode cL_law 706 = .ok (.iadd, 1) := by decide +kernel
theorem dL_law_707 : decode cL_law 707 = .ok (.iaload, 1) := by decide +kernel
theorem dL_law_708 : decode cL_law 708 = .ok (.invokevirtual 78, 3) := by decide +kernel
theorem dL_law_711 : decode cL_law 711 = .ok (.if_icmp .eq 160, 3) := by decide +kernel
theorem dL_law_714 : decode cL_law 714 = .ok (.iconst 0, 1) := by decide +kernel
theorem dL_law_715 : decode cL_law 715 = .ok (.ireturn, 1) := by decide +kernel
theorem dL_law_716 : decode cL_law 716 = .ok (.aload_n 1, 1) := by decide +kernel
theorem dL_law_717 : decode cL_law 717 = .ok (.aload_n 0, 1) := by decide +kernel
theorem dL_law_718 : decode cL_law 718 = .ok (.iload_n 3, 1) := by decide +kernel
theorem dL_law_719 : decode cL_law 719 = .ok (.iconst 1, 1) := by decide +kernel
theorem dL_law_720 : decode cL_law 720 = .ok (.iadd, 1) := by decide +kernel
theorem dL_law_721 : decode cL_law 721 = .ok (.iaload, 1) := by decide +kernel
theorem dL_law_722 : decode cL_law 722 = .ok (.aload_n 0, 1) := by decide +kernel
theorem dL_law_723 : decode cL_law 723 = .ok (.iload_n 3, 1) := by decide +kernel
theorem dL_law_724 : decode cL_law 724 = .ok (.iconst 2, 1) := by decide +kernel
theorem dL_law_725 : decode cL_law 725 = .ok (.iadd, 1) := by decide +kernel
theorem dL_law_726 : decode cL_law 726 = .ok (.iaload, 1) := by decide +kernel
theorem dL_law_727 : decode cL_law 727 = .ok (.aload_n 0, 1) := by decide +kernel
theorem dL_law_728 : decode cL_law 728 = .ok (.iload_n 3, 1) := by decide +kernel
theorem dL_law_729 : decode cL_law 729 = .ok (.iconst 3, 1) := by decide +kernel
theorem dL_law_730 : decode cL_law 730 = .ok (.iadd, 1) := by decide +kernel
theorem dL_law_731 : decode cL_law 731 = .ok (.iaload, 1) := by decide +kernel
theorem dL_law_732 : decode cL_law 732 = .ok (.invokevirtual 79, 3) := by decide +kernel
theorem dL_law_735 : decode cL_law 735 = .ok (.aload_n 2, 1) := by decide +kernel
theorem dL_law_736 : decode cL_law 736 = .ok (.aload_n 0, 1) := by decide +kernel
theorem dL_law_737 : decode cL_law 737 = .ok (.iload_n 3, 1) := by decide +kernel
theorem dL_law_738 : decode cL_law 738 = .ok (.iconst 1, 1) := by decide +kernel
theorem dL_law_739 : decode cL_law 739 = .ok (.iadd, 1) := by decide +kernel
theorem dL_law_740 : decode cL_law 740 = .ok (.iaload, 1) := by decide +kernel
theorem dL_law_741 : decode cL_law 741 = .ok (.aload_n 0, 1) := by decide +kernel
theorem dL_law_742 : decode cL_law 742 = .ok (.iload_n 3, 1) := by decide +kernel
theorem dL_law_743 : decode cL_law 743 = .ok (.iconst 2, 1) := by decide +kernel
theorem dL_law_744 : decode cL_law 744 = .ok (.iadd, 1) := by decide +kernel
theorem dL_law_745 : decode cL_law 745 = .ok (.iaload, 1) := by decide +kernel
theorem dL_law_746 : decode cL_law 746 = .ok (.aload_n 0, 1) := by decide +kernel
theorem dL_law_747 : decode cL_law 747 = .ok (.iload_n 3, 1) := by decide +kernel
theorem dL_law_748 : decode cL_law 748 = .ok (.iconst 3, 1) := by decide +kernel
theorem dL_law_749 : decode cL_law 749 = .ok (.iadd, 1) := by decide +kernel
theorem dL_law_750 : decode cL_law 750 = .ok (.iaload, 1) := by decide +kernel
theorem dL_law_751 : decode cL_law 751 = .ok (.invokevirtual 82, 3) := by decide +kernel
theorem dL_law_754 : decode cL_law 754 = .ok (.if_icmp .eq 117, 3) := by decide +kernel
theorem dL_law_757 : decode cL_law 757 = .ok (.iconst 0, 1) := by decide +kernel
theorem dL_law_758 : decode cL_law 758 = .ok (.ireturn, 1) := by decide +kernel
theorem dL_law_759 : decode cL_law 759 = .ok (.aload_n 1, 1) := by decide +kernel
theorem dL_law_760 : decode cL_law 760 = .ok (.aload_n 0, 1) := by decide +kernel
theorem dL_law_761 : decode cL_law 761 = .ok (.iload_n 3, 1) := by decide +kernel
theorem dL_law_762 : decode cL_law 762 = .ok (.iconst 1, 1) := by decide +kernel
theorem dL_law_763 : decode cL_law 763 = .ok (.iadd, 1) := by decide +kernel
theorem dL_law_764 : decode cL_law 764 = .ok (.iaload, 1) := by decide +kernel
theorem dL_law_765 : decode cL_law 765 = .ok (.aload_n 0, 1) := by decide +kernel
theorem dL_law_766 : decode cL_law 766 = .ok (.iload_n 3, 1) := by decide +kernel
theorem dL_law_767 : decode cL_law 767 = .ok (.iconst 2, 1) := by decide +kernel
theorem dL_law_768 : decode cL_law 768 = .ok (.iadd, 1) := by decide +kernel
theorem dL_law_769 : decode cL_law 769 = .ok (.iaload, 1) := by decide +kernel
theorem dL_law_770 : decode cL_law 770 = .ok (.aload_n 0, 1) := by decide +kernel
theorem dL_law_771 : decode cL_law 771 = .ok (.iload_n 3, 1) := by decide +kernel
theorem dL_law_772 : decode cL_law 772 = .ok (.iconst 3, 1) := by decide +kernel
theorem dL_law_773 : decode cL_law 773 = .ok (.iadd, 1) := by decide +kernel
theorem dL_law_774 : decode cL_law 774 = .ok (.iaload, 1) := by decide +kernel
theorem dL_law_775 : decode cL_law 775 = .ok (.invokevirtual 83, 3) := by decide +kernel
theorem dL_law_778 : decode cL_law 778 = .ok (.aload_n 2, 1) := by decide +kernel
theorem dL_law_779 : decode cL_law 779 = .ok (.aload_n 0, 1) := by decide +kernel
theorem dL_law_780 : decode cL_law 780 = .ok (.iload_n 3, 1) := by decide +kernel
theorem dL_law_781 : decode cL_law 781 = .ok (.iconst 1, 1) := by decide +kernel
theorem dL_law_782 : decode cL_law 782 = .ok (.iadd, 1) := by decide +kernel
theorem dL_law_783 : decode cL_law 783 = .ok (.iaload, 1) := by decide +kernel
theorem dL_law_784 : decode cL_law 784 = .ok (.aload_n 0, 1) := by decide +kernel
theorem dL_law_785 : decode cL_law 785 = .ok (.iload_n 3, 1) := by decide +kernel
theorem dL_law_786 : decode cL_law 786 = .ok (.iconst 2, 1) := by decide +kernel
theorem dL_law_787 : decode cL_law 787 = .ok (.iadd, 1) := by decide +kernel
theorem dL_law_788 : decode cL_law 788 = .ok (.iaload, 1) := by decide +kernel
theorem dL_law_789 : decode cL_law 789 = .ok (.aload_n 0, 1) := by decide +kernel
theorem dL_law_790 : decode cL_law 790 = .ok (.iload_n 3, 1) := by decide +kernel
theorem dL_law_791 : decode cL_law 791 = .ok (.iconst 3, 1) := by decide +kernel
theorem dL_law_792 : decode cL_law 792 = .ok (.iadd, 1) := by decide +kernel
theorem dL_law_793 : decode cL_law 793 = .ok (.iaload, 1) := by decide +kernel
theorem dL_law_794 : decode cL_law 794 = .ok (.invokevirtual 86, 3) := by decide +kernel
theorem dL_law_797 : decode cL_law 797 = .ok (.if_icmp .eq 74, 3) := by decide +kernel
theorem dL_law_800 : decode cL_law 800 = .ok (.iconst 0, 1) := by decide +kernel
theorem dL_law_801 : decode cL_law 801 = .ok (.ireturn, 1) := by decide +kernel
theorem dL_law_802 : decode cL_law 802 = .ok (.aload_n 1, 1) := by decide +kernel
theorem dL_law_803 : decode cL_law 803 = .ok (.aload_n 0, 1) := by decide +kernel
theorem dL_law_804 : decode cL_law 804 = .ok (.iload_n 3, 1) := by decide +kernel
theorem dL_law_805 : decode cL_law 805 = .ok (.iconst 1, 1) := by decide +kernel
theorem dL_law_806 : decode cL_law 806 = .ok (.iadd, 1) := by decide +kernel
theorem dL_law_807 : decode cL_law 807 = .ok (.iaload, 1) := by decide +kernel
theorem dL_law_808 : decode cL_law 808 = .ok (.invokevirtual 87, 3) := by decide +kernel
theorem dL_law_811 : decode cL_law 811 = .ok (.aload_n 2, 1) := by decide +kernel
theorem dL_law_812 : decode cL_law 812 = .ok (.aload_n 0, 1) := by decide +kernel
theorem dL_law_813 : decode cL_law 813 = .ok (.iload_n 3, 1) := by decide +kernel
theorem dL_law_814 : decode cL_law 814 = .ok (.iconst 1, 1) := by decide +kernel
theorem dL_law_815 : decode cL_law 815 = .ok (.iadd, 1) := by decide +kernel
theorem dL_law_816 : decode cL_law 816 = .ok (.iaload, 1) := by decide +kernel
theorem dL_law_817 : decode cL_law 817 = .ok (.invokevirtual 90, 3) := by decide +kernel
theorem dL_law_820 : decode cL_law 820 = .ok (.if_icmp .eq 51, 3) := by decide +kernel
theorem dL_law_823 : decode cL_law 823 = .ok (.iconst 0, 1) := by decide +kernel
theorem dL_law_824 : decode cL_law 824 = .ok (.ireturn, 1) := by decide +kernel
theorem dL_law_825 : decode cL_law 825 = .ok (.aload_n 1, 1) := by decide +kernel
theorem dL_law_826 : decode cL_law 826 = .ok (.aload_n 0, 1) := by decide +kernel
theorem dL_law_827 : decode cL_law 827 = .ok (.iload_n 3, 1) := by decide +kernel
theorem dL_law_828 : decode cL_law 828 = .ok (.iconst 1, 1) := by decide +kernel
theorem dL_law_829 : decode cL_law 829 = .ok (.iadd, 1) := by decide +kernel
theorem dL_law_830 : decode cL_law 830 = .ok (.iaload, 1) := by decide +kernel
theorem dL_law_831 : decode cL_law 831 = .ok (.invokevirtual 91, 3) := by decide +kernel
theorem dL_law_834 : decode cL_law 834 = .ok (.aload_n 2, 1) := by decide +kernel
theorem dL_law_835 : decode cL_law 835 = .ok (.aload_n 0, 1) := by decide +kernel
theorem dL_law_836 : decode cL_law 836 = .ok (.iload_n 3, 1) := by decide +kernel
theorem dL_law_837 : decode cL_law 837 = .ok (.iconst 1, 1) := by decide +kernel
theorem dL_law_838 : decode cL_law 838 = .ok (.iadd, 1) := by decide +kernel
theorem dL_law_839 : decode cL_law 839 = .ok (.iaload, 1) := by decide +kernel
theorem dL_law_840 : decode cL_law 840 = .ok (.invokevirtual 94, 3) := by decide +kernel
theorem dL_law_843 : decode cL_law 843 = .ok (.if_icmp .eq 28, 3) := by decide +kernel
theorem dL_law_846 : decode cL_law 846 = .ok (.iconst 0, 1) := by decide +kernel
theorem dL_law_847 : decode cL_law 847 = .ok (.ireturn, 1) := by decide +kernel
theorem dL_law_848 : decode cL_law 848 = .ok (.aload_n 1, 1) := by decide +kernel
theorem dL_law_849 : decode cL_law 849 = .ok (.aload_n 0, 1) := by decide +kernel
theorem dL_law_850 : decode cL_law 850 = .ok (.iload_n 3, 1) := by decide +kernel
theorem dL_law_851 : decode cL_law 851 = .ok (.iconst 1, 1) := by decide +kernel
theorem dL_law_852 : decode cL_law 852 = .ok (.iadd, 1) := by decide +kernel
theorem dL_law_853 : decode cL_law 853 = .ok (.iaload, 1) := by decide +kernel
theorem dL_law_854 : decode cL_law 854 = .ok (.invokevirtual 95, 3) := by decide +kernel
theorem dL_law_857 : decode cL_law 857 = .ok (.aload_n 2, 1) := by decide +kernel
theorem dL_law_858 : decode cL_law 858 = .ok (.aload_n 0, 1) := by decide +kernel
theorem dL_law_859 : decode cL_law 859 = .ok (.iload_n 3, 1) := by decide +kernel
theorem dL_law_860 : decode cL_law 860 = .ok (.iconst 1, 1) := by decide +kernel
theorem dL_law_861 : decode cL_law 861 = .ok (.iadd, 1) := by decide +kernel
theorem dL_law_862 : decode cL_law 862 = .ok (.iaload, 1) := by decide +kernel
theorem dL_law_863 : decode cL_law 863 = .ok (.invokevirtual 98, 3) := by decide +kernel
theorem dL_law_866 : decode cL_law 866 = .ok (.if_icmp .eq 5, 3) := by decide +kernel
theorem dL_law_869 : decode cL_law 869 = .ok (.iconst 0, 1) := by decide +kernel
theorem dL_law_870 : decode cL_law 870 = .ok (.ireturn, 1) := by decide +kernel
theorem dL_law_871 : decode cL_law 871 = .ok (.iinc 3 5, 3) := by decide +kernel
theorem dL_law_874 : decode cL_law 874 = .ok (.goto (-856), 3) := by decide +kernel
theorem dL_law_877 : decode cL_law 877 = .ok (.iconst 1, 1) := by decide +kernel
theorem dL_law_878 : decode cL_law 878 = .ok (.ireturn, 1) := by decide +kernel
end
section
/-! the state that both objects have once they are made: long arrays, int and boolean arrays, the reference's one flag, by numbers of cells -/
abbrev bz_S : Type := (Nat → Nat → Int64) × (Nat → Nat → Int32) × Int32
/-- class numbers: of the classes, of int[], long[], boolean[], long[][]; the cells of STARTS and PARTS -/
abbrev bz_K : Type := va_G × ClassId × ClassId × ClassId × ClassId × Nat × Nat
abbrev bz_M : Type := MethodName × ByteArray × String × Nat × Option FieldType
/-- the shape of each cell: kind (0 int[], 1 long[], 2 boolean[], 3 long[][], 4 object), length or class, first row, fields -/
def bz_shl : List (Nat × Nat × Nat × List (Option Nat)) :=
  [(4, 1, 0, [some 1, some 2, some 3, some 4, some 5, some 6, some 7, some 8]),
   (0, 30, 0, []), (0, 30, 0, []), (0, 30, 0, []), (0, 30, 0, []), (0, 30, 0, []), (0, 900, 0, []), (0, 900, 0, []), (0, 900, 0, []),
   (4, 0, 0, [some 0, some 10, some 11]), (1, 30, 0, []), (1, 30, 0, []),
   (4, 2, 0, [some 0, some 13, some 21, some 22]), (3, 7, 14, []), (1, 30, 0, []), (1, 30, 0, []), (1, 30, 0, []), (1, 30, 0, []), (1, 30, 0, []), (1, 30, 0, []), (1, 30, 0, []),
   (1, 30, 0, []), (1, 30, 0, []),
   (4, 3, 0, [some 0, some 9, some 12, some 24, some 33, some 50, some 51, some 52, some 53]), (3, 8, 25, []),
   (1, 30, 0, []), (1, 30, 0, []), (1, 30, 0, []), (1, 30, 0, []), (1, 30, 0, []), (1, 30, 0, []), (1, 30, 0, []), (1, 30, 0, []),
   (3, 16, 34, []),
   (1, 30, 0, []), (1, 30, 0, []), (1, 30, 0, []), (1, 30, 0, []), (1, 30, 0, []), (1, 30, 0, []), (1, 30, 0, []), (1, 30, 0, []),
   (1, 30, 0, []), (1, 30, 0, []), (1, 30, 0, []), (1, 30, 0, []), (1, 30, 0, []), (1, 30, 0, []), (1, 30, 0, []), (1, 30, 0, []),
   (2, 2, 0, []), (1, 30, 0, []), (1, 30, 0, []), (1, 30, 0, []),
   (4, 4, 0, [some 55, some 56, some 57, some 58, none, some 59, some 60, some 61, some 62, some 63, some 64, some 65, some 66, some 67, some 68, some 69, some 70, some 71, some 72]),
   (0, 180, 0, []), (0, 30, 0, []), (0, 672, 0, []), (1, 4500, 0, []), (1, 240, 0, []), (1, 30, 0, []), (0, 6, 0, []), (0, 6, 0, []), (1, 30, 0, []), (1, 30, 0, []), (1, 30, 0, []), (1, 30, 0, []), (1, 30, 0, []), (1, 30, 0, []), (1, 30, 0, []), (1, 30, 0, []), (1, 480, 0, []), (2, 2, 0, [])]
def bz_sh (k : Nat) : Nat × Nat × Nat × List (Option Nat) := bz_shl.getD k (9, 0, 0, [])
def bz_fv (ad : Nat → Nat) (σ : bz_S) : Option Nat → Value
  | some q => .ref (ad q)
  | none => .int σ.2.2
def bz_ent (ad : Nat → Nat) (K : bz_K) (σ : bz_S) (k : Nat) : va_E := match bz_sh k with
  | (0, n, _, _) => .inl (K.2.1, n, .inl (σ.2.1 k))
  | (1, n, _, _) => .inl (K.2.2.1, n, .inr (.inl (σ.1 k)))
  | (2, n, _, _) => .inl (K.2.2.2.1, n, .inl (σ.2.1 k))
  | (3, n, b, _) => .inl (K.2.2.2.2.1, n, .inr (.inr (.inr (.inr (fun i => if i < n then some (ad (b + i)) else none)))))
  | (_, ci, _, fl) => .inr (ci, fl.map (bz_fv ad σ))
def bz_ws (ad : Nat → Nat) (K : bz_K) (σ : bz_S) (n : Nat) : va_W := (List.range n).map (fun k => (ad k, bz_ent ad K σ k))
theorem bz_ws_at {ad : Nat → Nat} {K : bz_K} {σ : bz_S} {n k : Nat} (h : k < n) : (bz_ws ad K σ n)[k]? = some (ad k, bz_ent ad K σ k) := by
  unfold bz_ws
  rw [List.getElem?_map, List.getElem?_range h]
  rfl
theorem bz_ws_len {ad : Nat → Nat} {K : bz_K} {σ : bz_S} {n : Nat} : (bz_ws ad K σ n).length = n := by
  unfold bz_ws
  rw [List.length_map, List.length_range]
theorem bz_ws_get {ad : Nat → Nat} {K : bz_K} {σ : bz_S} {n k : Nat} {q : Nat × va_E} (h : (bz_ws ad K σ n)[k]? = some q) : k < n ∧ q = (ad k, bz_ent ad K σ k) := by
  have hk : k < n := by
    have := (List.getElem?_eq_some_iff.mp h).1
    rw [bz_ws_len] at this
    exact this
  rw [bz_ws_at hk] at h
  exact ⟨hk, (Option.some.inj h).symm⟩
def bz_tys (K : bz_K) : List (ClassId × FieldType) := [(K.2.1, .int), (K.2.2.1, .long), (K.2.2.2.1, .boolean), (K.2.2.2.2.1, .array .long)]
def bz_upJ (σ : bz_S) (k i : Nat) (x : Int64) : bz_S := (fun a => if a = k then vp_updL (σ.1 k) i x else σ.1 a, σ.2)
def bz_upI (σ : bz_S) (k i : Nat) (x : Int32) : bz_S := (σ.1, fun a => if a = k then upd (σ.2.1 k) i x else σ.2.1 a, σ.2.2)
def bz_upB (σ : bz_S) (x : Int32) : bz_S := (σ.1, σ.2.1, x)
def bz_setJ (σ : bz_S) (k : Nat) (f : Nat → Int64) : bz_S := (fun a => if a = k then f else σ.1 a, σ.2)
def bz_setI (σ : bz_S) (k : Nat) (f : Nat → Int32) : bz_S := (σ.1, fun a => if a = k then f else σ.2.1 a, σ.2.2)
def bz_isNest : Cond → Bool
  | .fieldLinkNest .. => true
  | .methodLinkNest .. => true
  | _ => false
def bz_tbl : List Cond := lw_tbl.filter goodWord
def bz_nst : List Cond := lw_tbl.filter bz_isNest
theorem bz_nst_on {w : Cond} (h : w ∈ bz_nst) : w.onTables = true := by
  have h2 := (List.mem_filter.mp h).2
  cases w <;> first | rfl | (simp [bz_isNest] at h2)
theorem bz_nst_warm {w : Cond} (h : w ∈ bz_nst) {s U : State} (hW : s.WarmedH U.vm) (hZ : va_Nw w s) : va_Nw w U := by
  have h2 := (List.mem_filter.mp h).2
  cases w with
  | fieldLinkNest a i b n d h => exact va_Nw.warmF hW hZ
  | methodLinkNest a i x h => exact va_Nw.warmM hW hZ
  | _ => simp [bz_isNest] at h2
def bz_STARTS (j : Nat) : Int32 := nI ([0, 1, 2, 4, 7, 12, 19, 30].getD j 0)
def bz_parts : List Nat := [0,0,0,0,0,0, 1,0,0,0,0,0, 2,0,0,0,0,0, 1,1,0,0,0,0, 3,0,0,0,0,0, 2,1,0,0,0,0, 1,1,1,0,0,0, 4,0,0,0,0,0, 3,1,0,0,0,0, 2,2,0,0,0,0, 2,1,1,0,0,0, 1,1,1,1,0,0, 5,0,0,0,0,0, 4,1,0,0,0,0, 3,2,0,0,0,0, 3,1,1,0,0,0, 2,2,1,0,0,0, 2,1,1,1,0,0, 1,1,1,1,1,0, 6,0,0,0,0,0, 5,1,0,0,0,0, 4,2,0,0,0,0, 4,1,1,0,0,0, 3,3,0,0,0,0, 3,2,1,0,0,0, 3,1,1,1,0,0, 2,2,2,0,0,0, 2,2,1,1,0,0, 2,1,1,1,1,0, 1,1,1,1,1,1]
def bz_PARTS (j : Nat) : Int32 := nI (bz_parts.getD j 0)
/-- what is so at a state, and stays: tables, the cells' numbers, the two static arrays -/
def bz_G (ad : Nat → Nat) (K : bz_K) (n : Nat) (A : Nat → Prop) (U : State) : Prop :=
  va_K K.1 vwCl (bz_tys K) U ∧ (∀ w ∈ bz_nst, va_Nw w U) ∧ (∀ i j : Nat, i < n → j < n → ad i = ad j → i = j) ∧ (∀ k : Nat, k < n → A (ad k)) ∧
  va_Z RX1 "STARTS" "[I" (.ref K.2.2.2.2.2.1) A U U.heap ∧ va_T .int K.2.2.2.2.2.1 8 (fun j => .int (bz_STARTS j)) A U U.heap ∧
  va_Z RX1 "PARTS" "[I" (.ref K.2.2.2.2.2.2) A U U.heap ∧ va_T .int K.2.2.2.2.2.2 180 (fun j => .int (bz_PARTS j)) A U U.heap
def bz_Af (ad : Nat → Nat) (n : Nat) : Nat → Prop := fun q => ∃ k : Nat, k < n ∧ q = ad k
def bz_C (p : Program) (s : State) (m : MethodId) (args : Array Value) (meth : Method) (c : Code) (ad : Nat → Nat) (K : bz_K) (n : Nat) (A : Nat → Prop) (M : bz_M) : Prop :=
  p.tables.exec = Jvm.exec ∧ c.code = M.2.1 ∧ meth.sig.returnType = M.2.2.2.2 ∧ c.maxLocals = M.2.2.2.1 ∧ s.vm.findClass M.2.2.1 = some m.cls ∧ (∀ w ∈ bz_tbl, w.before args s = true) ∧ bz_G ad K n A s
def bz_l (LS : Array Slot) (nL : Nat) (ls : List (Option Value)) : Prop := LS.size = nL ∧ lv_wf LS ∧ ∀ (i : Nat) (v : Value), ls[i]? = some (some v) → LS[i]? = some (.val v)
def bz_ret (M : bz_M) (pc : Nat) : Option Value → Prop
  | some (.int x) => decode M.2.1 pc = .ok (.ireturn, 1) ∧ (M.2.2.2.2 = some .int ∨ (M.2.2.2.2 = some .boolean ∧ narrow .boolean (.int x) = .int x))
  | some (.long _) => decode M.2.1 pc = .ok (.lreturn, 1) ∧ M.2.2.2.2 = some .long
  | none => decode M.2.1 pc = .ok (.return_, 1) ∧ M.2.2.2.2 = none
  | _ => False
/-- from pc, with these locals, this stack and this state, method M comes to its return, with r on the stack and the state σ'; it nests at most d calls -/
def bz_V (l : Launch) (ad : Nat → Nat) (K : bz_K) (n : Nat) (M : bz_M) (d : Nat) (r : Option Value) (σ' : bz_S) (pc : Nat) (ls : List (Option Value)) (st : List Value) (σ : bz_S) : Prop :=
  ∀ (p : Program) (e : Env) (R : Room) (s : State) (m : MethodId) (args : Array Value) (below : List Frame) (meth : Method) (c : Code) (A : Nat → Prop) (Q : State → Prop) (mc ms : Nat),
    bz_C p s m args meth c ad K n A M → (d ≤ R.frames ∧ 38 * d ≤ R.locals ∧ mc ≤ R.cells ∧ ms ≤ R.slots) →
    (∀ (pc' : Nat) (H' : Heap) (locs' : List Loc) (LS' : Array Slot), bz_ret M pc' r → va_P K.1 vwCl (bz_ws ad K σ' n) H' → va_S A s.heap H' locs' → LS'.size = M.2.2.2.1 → W p l e R s m args below meth c H' locs' mc ms Q (F0 m pc' LS' r.toList)) →
    ∀ (H : Heap) (locs : List Loc) (LS : Array Slot), va_P K.1 vwCl (bz_ws ad K σ n) H → va_S A s.heap H locs → bz_l LS M.2.2.2.1 ls → W p l e R s m args below meth c H locs mc ms Q (F0 m pc LS st)
theorem bz_D {ad : Nat → Nat} {K : bz_K} {σ : bz_S} {n : Nat} {A : Nat → Prop} {U : State} (h : bz_G ad K n A U) : va_D A (bz_ws ad K σ n) := by
  obtain ⟨-, -, h3, h4, -⟩ := h
  refine ⟨fun i j x y hx hy hxy => ?_, fun k q hq => ?_⟩
  · obtain ⟨a1, rfl⟩ := bz_ws_get hx
    obtain ⟨a2, rfl⟩ := bz_ws_get hy
    exact h3 i j a1 a2 hxy
  · obtain ⟨a1, rfl⟩ := bz_ws_get hq
    exact h4 k a1
theorem bz_set_eq {ad : Nat → Nat} {K : bz_K} {σ σ1 : bz_S} {n k : Nat} {e : va_E} (hk : bz_ent ad K σ1 k = e) (ho : ∀ j : Nat, j ≠ k → bz_ent ad K σ1 j = bz_ent ad K σ j) : (bz_ws ad K σ n).set k (ad k, e) = bz_ws ad K σ1 n := by
  apply List.ext_getElem?
  intro i
  by_cases hi : i < n
  · rw [bz_ws_at hi]
    by_cases e1 : k = i
    · subst e1
      rw [List.getElem?_set_self (by rw [bz_ws_len]; exact hi), hk]
    · rw [List.getElem?_set_ne e1, bz_ws_at hi, ho i (fun q => e1 q.symm)]
  · rw [List.getElem?_eq_none (by rw [List.length_set, bz_ws_len]; omega), List.getElem?_eq_none (by rw [bz_ws_len]; omega)]
theorem bz_ent0 {ad : Nat → Nat} {K : bz_K} {σ : bz_S} {k n b : Nat} {fl : List (Option Nat)} (h : bz_sh k = (0, n, b, fl)) : bz_ent ad K σ k = .inl (K.2.1, n, .inl (σ.2.1 k)) := by
  unfold bz_ent
  rw [h]
  rfl
theorem bz_ent1 {ad : Nat → Nat} {K : bz_K} {σ : bz_S} {k n b : Nat} {fl : List (Option Nat)} (h : bz_sh k = (1, n, b, fl)) : bz_ent ad K σ k = .inl (K.2.2.1, n, .inr (.inl (σ.1 k))) := by
  unfold bz_ent
  rw [h]
  rfl
theorem bz_ent2 {ad : Nat → Nat} {K : bz_K} {σ : bz_S} {k n b : Nat} {fl : List (Option Nat)} (h : bz_sh k = (2, n, b, fl)) : bz_ent ad K σ k = .inl (K.2.2.2.1, n, .inl (σ.2.1 k)) := by
  unfold bz_ent
  rw [h]
  rfl
theorem bz_ent3 {ad : Nat → Nat} {K : bz_K} {σ : bz_S} {k n b : Nat} {fl : List (Option Nat)} (h : bz_sh k = (3, n, b, fl)) : bz_ent ad K σ k = .inl (K.2.2.2.2.1, n, .inr (.inr (.inr (.inr (fun i => if i < n then some (ad (b + i)) else none))))) := by
  unfold bz_ent
  rw [h]
  rfl
theorem bz_ent4 {ad : Nat → Nat} {K : bz_K} {σ : bz_S} {k n b : Nat} {fl : List (Option Nat)} (h : bz_sh k = (4, n, b, fl)) : bz_ent ad K σ k = .inr (n, fl.map (bz_fv ad σ)) := by
  unfold bz_ent
  rw [h]
  rfl
theorem bz_ent_congr {ad : Nat → Nat} {K : bz_K} {σ σ1 : bz_S} {j : Nat} (h1 : σ1.1 j = σ.1 j) (h2 : σ1.2.1 j = σ.2.1 j) (h3 : σ1.2.2 = σ.2.2) : bz_ent ad K σ1 j = bz_ent ad K σ j := by
  have e : bz_fv ad σ1 = bz_fv ad σ := by
    funext o
    cases o <;> simp [bz_fv, h3]
  unfold bz_ent
  rw [h1, h2, e]

section BZ1
variable {l : Launch} {ad : Nat → Nat} {K : bz_K} {n : Nat} {M : bz_M} {d : Nat} {r : Option Value} {σ σ' : bz_S} {pc : Nat} {ls : List (Option Value)} {st : List Value}
theorem bz_iconst {z : Int} {x : Int32} (hd : decode M.2.1 pc = .ok (.iconst z, 1)) (hv : Int32.ofInt z = x) (k : bz_V l ad K n M d r σ' (pc + 1) ls (.int x :: st) σ) : bz_V l ad K n M d r σ' pc ls st σ := by
  intro p e R s m args below meth c A Q mc ms C hR hQ H locs LS hP hS hl
  exact lv_iconst C.1 C.2.1 hd hv (k p e R s m args below meth c A Q mc ms C hR hQ H locs LS hP hS hl)
theorem bz_bipush {z : Int} {x : Int32} (hd : decode M.2.1 pc = .ok (.bipush z, 2)) (hv : (Int8.ofInt z).toInt32 = x) (k : bz_V l ad K n M d r σ' (pc + 2) ls (.int x :: st) σ) : bz_V l ad K n M d r σ' pc ls st σ := by
  intro p e R s m args below meth c A Q mc ms C hR hQ H locs LS hP hS hl
  exact lv_bipush C.1 C.2.1 hd hv (k p e R s m args below meth c A Q mc ms C hR hQ H locs LS hP hS hl)
theorem bz_sipush {z : Int} {x : Int32} (hd : decode M.2.1 pc = .ok (.sipush z, 3)) (hv : (Int16.ofInt z).toInt32 = x) (k : bz_V l ad K n M d r σ' (pc + 3) ls (.int x :: st) σ) : bz_V l ad K n M d r σ' pc ls st σ := by
  intro p e R s m args below meth c A Q mc ms C hR hQ H locs LS hP hS hl
  exact lv_sipush C.1 C.2.1 hd hv (k p e R s m args below meth c A Q mc ms C hR hQ H locs LS hP hS hl)
theorem bz_lconst {z : Fin 2} {x : Int64} (hd : decode M.2.1 pc = .ok (.lconst z, 1)) (hv : Int64.ofNat (z : Nat) = x) (k : bz_V l ad K n M d r σ' (pc + 1) ls (.long x :: st) σ) : bz_V l ad K n M d r σ' pc ls st σ := by
  intro p e R s m args below meth c A Q mc ms C hR hQ H locs LS hP hS hl
  exact lv_lconst C.1 C.2.1 hd hv (k p e R s m args below meth c A Q mc ms C hR hQ H locs LS hP hS hl)
theorem bz_iadd {x y : Int32} (hd : decode M.2.1 pc = .ok (.iadd, 1))  (k : bz_V l ad K n M d r σ' (pc + 1) ls (.int (x + y) :: st) σ) : bz_V l ad K n M d r σ' pc ls (.int y :: .int x :: st) σ := by
  intro p e R s m args below meth c A Q mc ms C hR hQ H locs LS hP hS hl
  exact lv_iadd C.1 C.2.1 hd  (k p e R s m args below meth c A Q mc ms C hR hQ H locs LS hP hS hl)
theorem bz_isub {x y : Int32} (hd : decode M.2.1 pc = .ok (.isub, 1))  (k : bz_V l ad K n M d r σ' (pc + 1) ls (.int (x - y) :: st) σ) : bz_V l ad K n M d r σ' pc ls (.int y :: .int x :: st) σ := by
  intro p e R s m args below meth c A Q mc ms C hR hQ H locs LS hP hS hl
  exact lv_isub C.1 C.2.1 hd  (k p e R s m args below meth c A Q mc ms C hR hQ H locs LS hP hS hl)
theorem bz_imul {x y : Int32} (hd : decode M.2.1 pc = .ok (.imul, 1))  (k : bz_V l ad K n M d r σ' (pc + 1) ls (.int (x * y) :: st) σ) : bz_V l ad K n M d r σ' pc ls (.int y :: .int x :: st) σ := by
  intro p e R s m args below meth c A Q mc ms C hR hQ H locs LS hP hS hl
  exact lv_imul C.1 C.2.1 hd  (k p e R s m args below meth c A Q mc ms C hR hQ H locs LS hP hS hl)
theorem bz_iand {x y : Int32} (hd : decode M.2.1 pc = .ok (.iand, 1))  (k : bz_V l ad K n M d r σ' (pc + 1) ls (.int (x &&& y) :: st) σ) : bz_V l ad K n M d r σ' pc ls (.int y :: .int x :: st) σ := by
  intro p e R s m args below meth c A Q mc ms C hR hQ H locs LS hP hS hl
  exact lv_iand C.1 C.2.1 hd  (k p e R s m args below meth c A Q mc ms C hR hQ H locs LS hP hS hl)
theorem bz_ishl {x y : Int32} (hd : decode M.2.1 pc = .ok (.ishl, 1))  (k : bz_V l ad K n M d r σ' (pc + 1) ls (.int (x <<< (y &&& 31)) :: st) σ) : bz_V l ad K n M d r σ' pc ls (.int y :: .int x :: st) σ := by
  intro p e R s m args below meth c A Q mc ms C hR hQ H locs LS hP hS hl
  exact lv_ishl C.1 C.2.1 hd  (k p e R s m args below meth c A Q mc ms C hR hQ H locs LS hP hS hl)
theorem bz_idiv {x y : Int32} (hd : decode M.2.1 pc = .ok (.idiv, 1)) (hne : ¬ y = 0) (k : bz_V l ad K n M d r σ' (pc + 1) ls (.int (x / y) :: st) σ) : bz_V l ad K n M d r σ' pc ls (.int y :: .int x :: st) σ := by
  intro p e R s m args below meth c A Q mc ms C hR hQ H locs LS hP hS hl
  exact lv_idiv C.1 C.2.1 hd hne (k p e R s m args below meth c A Q mc ms C hR hQ H locs LS hP hS hl)
theorem bz_irem {x y : Int32} (hd : decode M.2.1 pc = .ok (.irem, 1)) (hne : ¬ y = 0) (k : bz_V l ad K n M d r σ' (pc + 1) ls (.int (x - x / y * y) :: st) σ) : bz_V l ad K n M d r σ' pc ls (.int y :: .int x :: st) σ := by
  intro p e R s m args below meth c A Q mc ms C hR hQ H locs LS hP hS hl
  exact lv_irem C.1 C.2.1 hd hne (k p e R s m args below meth c A Q mc ms C hR hQ H locs LS hP hS hl)
theorem bz_ineg {x : Int32} (hd : decode M.2.1 pc = .ok (.ineg, 1))  (k : bz_V l ad K n M d r σ' (pc + 1) ls (.int (-x) :: st) σ) : bz_V l ad K n M d r σ' pc ls (.int x :: st) σ := by
  intro p e R s m args below meth c A Q mc ms C hR hQ H locs LS hP hS hl
  exact lv_ineg C.1 C.2.1 hd  (k p e R s m args below meth c A Q mc ms C hR hQ H locs LS hP hS hl)
theorem bz_ladd {x y : Int64} (hd : decode M.2.1 pc = .ok (.ladd, 1))  (k : bz_V l ad K n M d r σ' (pc + 1) ls (.long (x + y) :: st) σ) : bz_V l ad K n M d r σ' pc ls (.long y :: .long x :: st) σ := by
  intro p e R s m args below meth c A Q mc ms C hR hQ H locs LS hP hS hl
  exact lv_ladd C.1 C.2.1 hd  (k p e R s m args below meth c A Q mc ms C hR hQ H locs LS hP hS hl)
theorem bz_lsub {x y : Int64} (hd : decode M.2.1 pc = .ok (.lsub, 1))  (k : bz_V l ad K n M d r σ' (pc + 1) ls (.long (x - y) :: st) σ) : bz_V l ad K n M d r σ' pc ls (.long y :: .long x :: st) σ := by
  intro p e R s m args below meth c A Q mc ms C hR hQ H locs LS hP hS hl
  exact lv_lsub C.1 C.2.1 hd  (k p e R s m args below meth c A Q mc ms C hR hQ H locs LS hP hS hl)
theorem bz_lmul {x y : Int64} (hd : decode M.2.1 pc = .ok (.lmul, 1))  (k : bz_V l ad K n M d r σ' (pc + 1) ls (.long (x * y) :: st) σ) : bz_V l ad K n M d r σ' pc ls (.long y :: .long x :: st) σ := by
  intro p e R s m args below meth c A Q mc ms C hR hQ H locs LS hP hS hl
  exact lv_lmul C.1 C.2.1 hd  (k p e R s m args below meth c A Q mc ms C hR hQ H locs LS hP hS hl)
theorem bz_ldiv {x y : Int64} (hd : decode M.2.1 pc = .ok (.ldiv, 1)) (hne : ¬ y = 0) (k : bz_V l ad K n M d r σ' (pc + 1) ls (.long (x / y) :: st) σ) : bz_V l ad K n M d r σ' pc ls (.long y :: .long x :: st) σ := by
  intro p e R s m args below meth c A Q mc ms C hR hQ H locs LS hP hS hl
  exact lv_ldiv C.1 C.2.1 hd hne (k p e R s m args below meth c A Q mc ms C hR hQ H locs LS hP hS hl)
theorem bz_lrem {x y : Int64} (hd : decode M.2.1 pc = .ok (.lrem, 1)) (hne : ¬ y = 0) (k : bz_V l ad K n M d r σ' (pc + 1) ls (.long (x - x / y * y) :: st) σ) : bz_V l ad K n M d r σ' pc ls (.long y :: .long x :: st) σ := by
  intro p e R s m args below meth c A Q mc ms C hR hQ H locs LS hP hS hl
  exact lv_lrem C.1 C.2.1 hd hne (k p e R s m args below meth c A Q mc ms C hR hQ H locs LS hP hS hl)
theorem bz_lneg {x : Int64} (hd : decode M.2.1 pc = .ok (.lneg, 1))  (k : bz_V l ad K n M d r σ' (pc + 1) ls (.long (-x) :: st) σ) : bz_V l ad K n M d r σ' pc ls (.long x :: st) σ := by
  intro p e R s m args below meth c A Q mc ms C hR hQ H locs LS hP hS hl
  exact lv_lneg C.1 C.2.1 hd  (k p e R s m args below meth c A Q mc ms C hR hQ H locs LS hP hS hl)
theorem bz_lcmp {x y : Int64} (hd : decode M.2.1 pc = .ok (.lcmp, 1))  (k : bz_V l ad K n M d r σ' (pc + 1) ls (.int (lg_cmp x y) :: st) σ) : bz_V l ad K n M d r σ' pc ls (.long y :: .long x :: st) σ := by
  intro p e R s m args below meth c A Q mc ms C hR hQ H locs LS hP hS hl
  exact W.lcmp C.1 C.2.1 hd  (k p e R s m args below meth c A Q mc ms C hR hQ H locs LS hP hS hl)
theorem bz_i2l {x : Int32} (hd : decode M.2.1 pc = .ok (.i2l, 1))  (k : bz_V l ad K n M d r σ' (pc + 1) ls (.long x.toInt64 :: st) σ) : bz_V l ad K n M d r σ' pc ls (.int x :: st) σ := by
  intro p e R s m args below meth c A Q mc ms C hR hQ H locs LS hP hS hl
  exact lv_i2l C.1 C.2.1 hd rfl (k p e R s m args below meth c A Q mc ms C hR hQ H locs LS hP hS hl)
theorem bz_l2i {x : Int64} (hd : decode M.2.1 pc = .ok (.l2i, 1))  (k : bz_V l ad K n M d r σ' (pc + 1) ls (.int x.toInt32 :: st) σ) : bz_V l ad K n M d r σ' pc ls (.long x :: st) σ := by
  intro p e R s m args below meth c A Q mc ms C hR hQ H locs LS hP hS hl
  exact lv_l2i C.1 C.2.1 hd rfl (k p e R s m args below meth c A Q mc ms C hR hQ H locs LS hP hS hl)
theorem bz_dup {v : Value} (hd : decode M.2.1 pc = .ok (.dup, 1)) (hv : v.category = 1) (k : bz_V l ad K n M d r σ' (pc + 1) ls (v :: v :: st) σ) : bz_V l ad K n M d r σ' pc ls (v :: st) σ := by
  intro p e R s m args below meth c A Q mc ms C hR hQ H locs LS hP hS hl
  exact lv_dup C.1 C.2.1 hd hv (k p e R s m args below meth c A Q mc ms C hR hQ H locs LS hP hS hl)
theorem bz_dup2 {v w : Value} (hd : decode M.2.1 pc = .ok (.dup2, 1)) (hv : v.category = 1) (hw : w.category = 1) (k : bz_V l ad K n M d r σ' (pc + 1) ls (v :: w :: v :: w :: st) σ) : bz_V l ad K n M d r σ' pc ls (v :: w :: st) σ := by
  intro p e R s m args below meth c A Q mc ms C hR hQ H locs LS hP hS hl
  exact lv_dup2_11 C.1 C.2.1 hd hv hw (k p e R s m args below meth c A Q mc ms C hR hQ H locs LS hP hS hl)
theorem bz_pop {v : Value} (hd : decode M.2.1 pc = .ok (.pop, 1)) (hv : v.category = 1) (k : bz_V l ad K n M d r σ' (pc + 1) ls st σ) : bz_V l ad K n M d r σ' pc ls (v :: st) σ := by
  intro p e R s m args below meth c A Q mc ms C hR hQ H locs LS hP hS hl
  exact lv_pop C.1 C.2.1 hd hv (k p e R s m args below meth c A Q mc ms C hR hQ H locs LS hP hS hl)
theorem bz_iaddN {a b : Nat} (hd : decode M.2.1 pc = .ok (.iadd, 1)) (k : bz_V l ad K n M d r σ' (pc + 1) ls (.int (nI (a + b)) :: st) σ) : bz_V l ad K n M d r σ' pc ls (.int (nI b) :: .int (nI a) :: st) σ := bz_iadd hd (by rw [nI_add]; exact k)
theorem bz_imulN {a b : Nat} (hd : decode M.2.1 pc = .ok (.imul, 1)) (k : bz_V l ad K n M d r σ' (pc + 1) ls (.int (nI (a * b)) :: st) σ) : bz_V l ad K n M d r σ' pc ls (.int (nI b) :: .int (nI a) :: st) σ := bz_imul hd (by rw [pk_mul]; exact k)
theorem bz_isubN {a b : Nat} (hd : decode M.2.1 pc = .ok (.isub, 1)) (h : b ≤ a) (k : bz_V l ad K n M d r σ' (pc + 1) ls (.int (nI (a - b)) :: st) σ) : bz_V l ad K n M d r σ' pc ls (.int (nI b) :: .int (nI a) :: st) σ := bz_isub hd (by rw [pk_sub h]; exact k)
theorem bz_idivN {a b : Nat} (hd : decode M.2.1 pc = .ok (.idiv, 1)) (ha : a < 2 ^ 31) (h0 : 0 < b) (hb : b < 2 ^ 31) (k : bz_V l ad K n M d r σ' (pc + 1) ls (.int (nI (a / b)) :: st) σ) : bz_V l ad K n M d r σ' pc ls (.int (nI b) :: .int (nI a) :: st) σ := bz_idiv hd (nI_ne0 h0 hb) (by rw [pk_div ha h0 hb]; exact k)
theorem bz_iremN {a b : Nat} (hd : decode M.2.1 pc = .ok (.irem, 1)) (ha : a < 2 ^ 31) (h0 : 0 < b) (hb : b < 2 ^ 31) (k : bz_V l ad K n M d r σ' (pc + 1) ls (.int (nI (a % b)) :: st) σ) : bz_V l ad K n M d r σ' pc ls (.int (nI b) :: .int (nI a) :: st) σ := bz_irem hd (nI_ne0 h0 hb) (by rw [pk_rem ha h0 hb]; exact k)
theorem bz_i2lN {a : Nat} (hd : decode M.2.1 pc = .ok (.i2l, 1)) (h : a < 2 ^ 31) (k : bz_V l ad K n M d r σ' (pc + 1) ls (.long (lN a) :: st) σ) : bz_V l ad K n M d r σ' pc ls (.int (nI a) :: st) σ := bz_i2l hd (by rw [nI_l h]; exact k)
theorem bz_goto {off : Int} {tgt : Nat} (hd : decode M.2.1 pc = .ok (.goto off, 3)) (ht : (pc : Int) + off = (tgt : Int)) (k : bz_V l ad K n M d r σ' tgt ls st σ) : bz_V l ad K n M d r σ' pc ls st σ := by
  intro p e R s m args below meth c A Q mc ms C hR hQ H locs LS hP hS hl
  exact lv_goto C.1 C.2.1 hd ht (k p e R s m args below meth c A Q mc ms C hR hQ H locs LS hP hS hl)
theorem bz_icmp_lt {x y : Int32} {off : Int} {tgt : Nat} (hd : decode M.2.1 pc = .ok (.if_icmp .lt off, 3)) (ht : (pc : Int) + off = (tgt : Int)) (kt : x < y → bz_V l ad K n M d r σ' tgt ls st σ) (kf : ¬ x < y → bz_V l ad K n M d r σ' (pc + 3) ls st σ) : bz_V l ad K n M d r σ' pc ls (.int y :: .int x :: st) σ := by
  intro p e R s m args below meth c A Q mc ms C hR hQ H locs LS hP hS hl
  exact lv_icmp_lt C.1 C.2.1 hd ht (fun h => (kt h p e R s m args below meth c A Q mc ms C hR hQ H locs LS hP hS hl)) (fun h => (kf h p e R s m args below meth c A Q mc ms C hR hQ H locs LS hP hS hl))
theorem bz_icmp_ge {x y : Int32} {off : Int} {tgt : Nat} (hd : decode M.2.1 pc = .ok (.if_icmp .ge off, 3)) (ht : (pc : Int) + off = (tgt : Int)) (kt : y ≤ x → bz_V l ad K n M d r σ' tgt ls st σ) (kf : ¬ y ≤ x → bz_V l ad K n M d r σ' (pc + 3) ls st σ) : bz_V l ad K n M d r σ' pc ls (.int y :: .int x :: st) σ := by
  intro p e R s m args below meth c A Q mc ms C hR hQ H locs LS hP hS hl
  exact lv_icmp_ge C.1 C.2.1 hd ht (fun h => (kt h p e R s m args below meth c A Q mc ms C hR hQ H locs LS hP hS hl)) (fun h => (kf h p e R s m args below meth c A Q mc ms C hR hQ H locs LS hP hS hl))
theorem bz_icmp_gt {x y : Int32} {off : Int} {tgt : Nat} (hd : decode M.2.1 pc = .ok (.if_icmp .gt off, 3)) (ht : (pc : Int) + off = (tgt : Int)) (kt : y < x → bz_V l ad K n M d r σ' tgt ls st σ) (kf : ¬ y < x → bz_V l ad K n M d r σ' (pc + 3) ls st σ) : bz_V l ad K n M d r σ' pc ls (.int y :: .int x :: st) σ := by
  intro p e R s m args below meth c A Q mc ms C hR hQ H locs LS hP hS hl
  exact lv_icmp_gt C.1 C.2.1 hd ht (fun h => (kt h p e R s m args below meth c A Q mc ms C hR hQ H locs LS hP hS hl)) (fun h => (kf h p e R s m args below meth c A Q mc ms C hR hQ H locs LS hP hS hl))
theorem bz_icmp_le {x y : Int32} {off : Int} {tgt : Nat} (hd : decode M.2.1 pc = .ok (.if_icmp .le off, 3)) (ht : (pc : Int) + off = (tgt : Int)) (kt : x ≤ y → bz_V l ad K n M d r σ' tgt ls st σ) (kf : ¬ x ≤ y → bz_V l ad K n M d r σ' (pc + 3) ls st σ) : bz_V l ad K n M d r σ' pc ls (.int y :: .int x :: st) σ := by
  intro p e R s m args below meth c A Q mc ms C hR hQ H locs LS hP hS hl
  exact lv_icmp_le C.1 C.2.1 hd ht (fun h => (kt h p e R s m args below meth c A Q mc ms C hR hQ H locs LS hP hS hl)) (fun h => (kf h p e R s m args below meth c A Q mc ms C hR hQ H locs LS hP hS hl))
theorem bz_icmp_eq {x y : Int32} {off : Int} {tgt : Nat} (hd : decode M.2.1 pc = .ok (.if_icmp .eq off, 3)) (ht : (pc : Int) + off = (tgt : Int)) (kt : x = y → bz_V l ad K n M d r σ' tgt ls st σ) (kf : ¬ x = y → bz_V l ad K n M d r σ' (pc + 3) ls st σ) : bz_V l ad K n M d r σ' pc ls (.int y :: .int x :: st) σ := by
  intro p e R s m args below meth c A Q mc ms C hR hQ H locs LS hP hS hl
  exact lv_icmp_eq C.1 C.2.1 hd ht (fun h => (kt h p e R s m args below meth c A Q mc ms C hR hQ H locs LS hP hS hl)) (fun h => (kf h p e R s m args below meth c A Q mc ms C hR hQ H locs LS hP hS hl))
theorem bz_icmp_ne {x y : Int32} {off : Int} {tgt : Nat} (hd : decode M.2.1 pc = .ok (.if_icmp .ne off, 3)) (ht : (pc : Int) + off = (tgt : Int)) (kt : ¬ x = y → bz_V l ad K n M d r σ' tgt ls st σ) (kf : x = y → bz_V l ad K n M d r σ' (pc + 3) ls st σ) : bz_V l ad K n M d r σ' pc ls (.int y :: .int x :: st) σ := by
  intro p e R s m args below meth c A Q mc ms C hR hQ H locs LS hP hS hl
  exact lv_icmp_ne C.1 C.2.1 hd ht (fun h => (kt h p e R s m args below meth c A Q mc ms C hR hQ H locs LS hP hS hl)) (fun h => (kf h p e R s m args below meth c A Q mc ms C hR hQ H locs LS hP hS hl))
theorem bz_if_lt {x : Int32} {off : Int} {tgt : Nat} (hd : decode M.2.1 pc = .ok (.ifCond .lt off, 3)) (ht : (pc : Int) + off = (tgt : Int)) (kt : x < 0 → bz_V l ad K n M d r σ' tgt ls st σ) (kf : ¬ x < 0 → bz_V l ad K n M d r σ' (pc + 3) ls st σ) : bz_V l ad K n M d r σ' pc ls (.int x :: st) σ := by
  intro p e R s m args below meth c A Q mc ms C hR hQ H locs LS hP hS hl
  exact lv_if_lt C.1 C.2.1 hd ht (fun h => (kt h p e R s m args below meth c A Q mc ms C hR hQ H locs LS hP hS hl)) (fun h => (kf h p e R s m args below meth c A Q mc ms C hR hQ H locs LS hP hS hl))
theorem bz_if_ge {x : Int32} {off : Int} {tgt : Nat} (hd : decode M.2.1 pc = .ok (.ifCond .ge off, 3)) (ht : (pc : Int) + off = (tgt : Int)) (kt : 0 ≤ x → bz_V l ad K n M d r σ' tgt ls st σ) (kf : ¬ 0 ≤ x → bz_V l ad K n M d r σ' (pc + 3) ls st σ) : bz_V l ad K n M d r σ' pc ls (.int x :: st) σ := by
  intro p e R s m args below meth c A Q mc ms C hR hQ H locs LS hP hS hl
  exact lv_if_ge C.1 C.2.1 hd ht (fun h => (kt h p e R s m args below meth c A Q mc ms C hR hQ H locs LS hP hS hl)) (fun h => (kf h p e R s m args below meth c A Q mc ms C hR hQ H locs LS hP hS hl))
theorem bz_if_gt {x : Int32} {off : Int} {tgt : Nat} (hd : decode M.2.1 pc = .ok (.ifCond .gt off, 3)) (ht : (pc : Int) + off = (tgt : Int)) (kt : 0 < x → bz_V l ad K n M d r σ' tgt ls st σ) (kf : ¬ 0 < x → bz_V l ad K n M d r σ' (pc + 3) ls st σ) : bz_V l ad K n M d r σ' pc ls (.int x :: st) σ := by
  intro p e R s m args below meth c A Q mc ms C hR hQ H locs LS hP hS hl
  exact lv_if_gt C.1 C.2.1 hd ht (fun h => (kt h p e R s m args below meth c A Q mc ms C hR hQ H locs LS hP hS hl)) (fun h => (kf h p e R s m args below meth c A Q mc ms C hR hQ H locs LS hP hS hl))
theorem bz_if_le {x : Int32} {off : Int} {tgt : Nat} (hd : decode M.2.1 pc = .ok (.ifCond .le off, 3)) (ht : (pc : Int) + off = (tgt : Int)) (kt : x ≤ 0 → bz_V l ad K n M d r σ' tgt ls st σ) (kf : ¬ x ≤ 0 → bz_V l ad K n M d r σ' (pc + 3) ls st σ) : bz_V l ad K n M d r σ' pc ls (.int x :: st) σ := by
  intro p e R s m args below meth c A Q mc ms C hR hQ H locs LS hP hS hl
  exact lv_if_le C.1 C.2.1 hd ht (fun h => (kt h p e R s m args below meth c A Q mc ms C hR hQ H locs LS hP hS hl)) (fun h => (kf h p e R s m args below meth c A Q mc ms C hR hQ H locs LS hP hS hl))
theorem bz_if_eq {x : Int32} {off : Int} {tgt : Nat} (hd : decode M.2.1 pc = .ok (.ifCond .eq off, 3)) (ht : (pc : Int) + off = (tgt : Int)) (kt : x = 0 → bz_V l ad K n M d r σ' tgt ls st σ) (kf : ¬ x = 0 → bz_V l ad K n M d r σ' (pc + 3) ls st σ) : bz_V l ad K n M d r σ' pc ls (.int x :: st) σ := by
  intro p e R s m args below meth c A Q mc ms C hR hQ H locs LS hP hS hl
  exact lv_if_eq C.1 C.2.1 hd ht (fun h => (kt h p e R s m args below meth c A Q mc ms C hR hQ H locs LS hP hS hl)) (fun h => (kf h p e R s m args below meth c A Q mc ms C hR hQ H locs LS hP hS hl))
theorem bz_if_ne {x : Int32} {off : Int} {tgt : Nat} (hd : decode M.2.1 pc = .ok (.ifCond .ne off, 3)) (ht : (pc : Int) + off = (tgt : Int)) (kt : ¬ x = 0 → bz_V l ad K n M d r σ' tgt ls st σ) (kf : x = 0 → bz_V l ad K n M d r σ' (pc + 3) ls st σ) : bz_V l ad K n M d r σ' pc ls (.int x :: st) σ := by
  intro p e R s m args below meth c A Q mc ms C hR hQ H locs LS hP hS hl
  exact lv_if_ne C.1 C.2.1 hd ht (fun h => (kt h p e R s m args below meth c A Q mc ms C hR hQ H locs LS hP hS hl)) (fun h => (kf h p e R s m args below meth c A Q mc ms C hR hQ H locs LS hP hS hl))
theorem bz_icmp_ltN {a b : Nat} {off : Int} {tgt : Nat} (hd : decode M.2.1 pc = .ok (.if_icmp .lt off, 3)) (ht : (pc : Int) + off = (tgt : Int)) (ha : a < 2 ^ 31) (hb : b < 2 ^ 31) (kt : a < b → bz_V l ad K n M d r σ' tgt ls st σ) (kf : b ≤ a → bz_V l ad K n M d r σ' (pc + 3) ls st σ) : bz_V l ad K n M d r σ' pc ls (.int (nI b) :: .int (nI a) :: st) σ := bz_icmp_lt hd ht (fun h => kt ((nI_ltI ha hb).mp h)) (fun h => kf (Nat.not_lt.mp (fun q => h ((nI_ltI ha hb).mpr q))))
theorem bz_icmp_geN {a b : Nat} {off : Int} {tgt : Nat} (hd : decode M.2.1 pc = .ok (.if_icmp .ge off, 3)) (ht : (pc : Int) + off = (tgt : Int)) (ha : a < 2 ^ 31) (hb : b < 2 ^ 31) (kt : b ≤ a → bz_V l ad K n M d r σ' tgt ls st σ) (kf : a < b → bz_V l ad K n M d r σ' (pc + 3) ls st σ) : bz_V l ad K n M d r σ' pc ls (.int (nI b) :: .int (nI a) :: st) σ := bz_icmp_ge hd ht (fun h => kt ((nI_leI hb ha).mp h)) (fun h => kf (Nat.not_le.mp (fun q => h ((nI_leI hb ha).mpr q))))
theorem bz_icmp_gtN {a b : Nat} {off : Int} {tgt : Nat} (hd : decode M.2.1 pc = .ok (.if_icmp .gt off, 3)) (ht : (pc : Int) + off = (tgt : Int)) (ha : a < 2 ^ 31) (hb : b < 2 ^ 31) (kt : b < a → bz_V l ad K n M d r σ' tgt ls st σ) (kf : a ≤ b → bz_V l ad K n M d r σ' (pc + 3) ls st σ) : bz_V l ad K n M d r σ' pc ls (.int (nI b) :: .int (nI a) :: st) σ := bz_icmp_gt hd ht (fun h => kt ((nI_ltI hb ha).mp h)) (fun h => kf (Nat.not_lt.mp (fun q => h ((nI_ltI hb ha).mpr q))))
theorem bz_icmp_leN {a b : Nat} {off : Int} {tgt : Nat} (hd : decode M.2.1 pc = .ok (.if_icmp .le off, 3)) (ht : (pc : Int) + off = (tgt : Int)) (ha : a < 2 ^ 31) (hb : b < 2 ^ 31) (kt : a ≤ b → bz_V l ad K n M d r σ' tgt ls st σ) (kf : b < a → bz_V l ad K n M d r σ' (pc + 3) ls st σ) : bz_V l ad K n M d r σ' pc ls (.int (nI b) :: .int (nI a) :: st) σ := bz_icmp_le hd ht (fun h => kt ((nI_leI ha hb).mp h)) (fun h => kf (Nat.not_le.mp (fun q => h ((nI_leI ha hb).mpr q))))
theorem bz_icmp_eqN {a b : Nat} {off : Int} {tgt : Nat} (hd : decode M.2.1 pc = .ok (.if_icmp .eq off, 3)) (ht : (pc : Int) + off = (tgt : Int)) (ha : a < 2 ^ 31) (hb : b < 2 ^ 31) (kt : a = b → bz_V l ad K n M d r σ' tgt ls st σ) (kf : a ≠ b → bz_V l ad K n M d r σ' (pc + 3) ls st σ) : bz_V l ad K n M d r σ' pc ls (.int (nI b) :: .int (nI a) :: st) σ := bz_icmp_eq hd ht (fun h => kt ((nI_eq ha hb).mp h)) (fun h => kf (fun q => h ((nI_eq ha hb).mpr q)))
theorem bz_icmp_neN {a b : Nat} {off : Int} {tgt : Nat} (hd : decode M.2.1 pc = .ok (.if_icmp .ne off, 3)) (ht : (pc : Int) + off = (tgt : Int)) (ha : a < 2 ^ 31) (hb : b < 2 ^ 31) (kt : a ≠ b → bz_V l ad K n M d r σ' tgt ls st σ) (kf : a = b → bz_V l ad K n M d r σ' (pc + 3) ls st σ) : bz_V l ad K n M d r σ' pc ls (.int (nI b) :: .int (nI a) :: st) σ := bz_icmp_ne hd ht (fun h => kt (fun q => h ((nI_eq ha hb).mpr q))) (fun h => kf ((nI_eq ha hb).mp h))
theorem bz_iload_n {x : Int32} {i : Fin 4} (hd : decode M.2.1 pc = .ok (.iload_n i, 1)) (h : ls[(i : Nat)]? = some (some (.int x))) (k : bz_V l ad K n M d r σ' (pc + 1) ls (.int x :: st) σ) : bz_V l ad K n M d r σ' pc ls st σ := by
  intro p e R s m args below meth c A Q mc ms C hR hQ H locs LS hP hS hl
  exact lv_iload_n C.1 C.2.1 hd rfl (hl.2.2 _ _ h) (k p e R s m args below meth c A Q mc ms C hR hQ H locs LS hP hS hl)
theorem bz_iload {x : Int32} {i : Nat} (hd : decode M.2.1 pc = .ok (.iload i, 2)) (h : ls[i]? = some (some (.int x))) (k : bz_V l ad K n M d r σ' (pc + 2) ls (.int x :: st) σ) : bz_V l ad K n M d r σ' pc ls st σ := by
  intro p e R s m args below meth c A Q mc ms C hR hQ H locs LS hP hS hl
  exact lv_iload C.1 C.2.1 hd (hl.2.2 _ _ h) (k p e R s m args below meth c A Q mc ms C hR hQ H locs LS hP hS hl)
theorem bz_lload_n {x : Int64} {i : Fin 4} (hd : decode M.2.1 pc = .ok (.lload_n i, 1)) (h : ls[(i : Nat)]? = some (some (.long x))) (k : bz_V l ad K n M d r σ' (pc + 1) ls (.long x :: st) σ) : bz_V l ad K n M d r σ' pc ls st σ := by
  intro p e R s m args below meth c A Q mc ms C hR hQ H locs LS hP hS hl
  exact lv_lload_n C.1 C.2.1 hd rfl (hl.2.2 _ _ h) (k p e R s m args below meth c A Q mc ms C hR hQ H locs LS hP hS hl)
theorem bz_lload {x : Int64} {i : Nat} (hd : decode M.2.1 pc = .ok (.lload i, 2)) (h : ls[i]? = some (some (.long x))) (k : bz_V l ad K n M d r σ' (pc + 2) ls (.long x :: st) σ) : bz_V l ad K n M d r σ' pc ls st σ := by
  intro p e R s m args below meth c A Q mc ms C hR hQ H locs LS hP hS hl
  exact lv_lload C.1 C.2.1 hd (hl.2.2 _ _ h) (k p e R s m args below meth c A Q mc ms C hR hQ H locs LS hP hS hl)
theorem bz_aload_n {x : Nat} {i : Fin 4} (hd : decode M.2.1 pc = .ok (.aload_n i, 1)) (h : ls[(i : Nat)]? = some (some (.ref x))) (k : bz_V l ad K n M d r σ' (pc + 1) ls (.ref x :: st) σ) : bz_V l ad K n M d r σ' pc ls st σ := by
  intro p e R s m args below meth c A Q mc ms C hR hQ H locs LS hP hS hl
  exact lv_aload_n C.1 C.2.1 hd rfl (hl.2.2 _ _ h) (k p e R s m args below meth c A Q mc ms C hR hQ H locs LS hP hS hl)
theorem bz_aload {x : Nat} {i : Nat} (hd : decode M.2.1 pc = .ok (.aload i, 2)) (h : ls[i]? = some (some (.ref x))) (k : bz_V l ad K n M d r σ' (pc + 2) ls (.ref x :: st) σ) : bz_V l ad K n M d r σ' pc ls st σ := by
  intro p e R s m args below meth c A Q mc ms C hR hQ H locs LS hP hS hl
  exact lv_aload C.1 C.2.1 hd (hl.2.2 _ _ h) (k p e R s m args below meth c A Q mc ms C hR hQ H locs LS hP hS hl)
def bz_c2 : Option Value → Bool
  | some v => decide (v.category = 2)
  | none => false
def bz_lv (ls : List (Option Value)) : List (Nat × Value) := (List.range ls.length).filterMap (fun i => (ls.getD i none).map (fun v => (i, v)))
theorem bz_lv_mem {ls : List (Option Value)} {q : Nat × Value} : q ∈ bz_lv ls ↔ ls[q.1]? = some (some q.2) := by
  unfold bz_lv
  rw [List.mem_filterMap]
  constructor
  · rintro ⟨i, -, h⟩
    rw [Option.map_eq_some_iff] at h
    obtain ⟨v, h1, rfl⟩ := h
    simp only [List.getD_eq_getElem?_getD] at h1
    cases h2 : ls[i]? with
    | none => rw [h2] at h1; cases h1
    | some o => rw [h2] at h1; simp at h1; simp [h2, h1]
  · intro h
    have hl := (List.getElem?_eq_some_iff.mp h).1
    refine ⟨q.1, List.mem_range.mpr hl, ?_⟩
    simp [List.getD_eq_getElem?_getD, h]
theorem bz_l_has {LS : Array Slot} {nL : Nat} {ls : List (Option Value)} (h : bz_l LS nL ls) : lv_has LS nL (bz_lv ls) := ⟨h.1, h.2.1, fun q hq => h.2.2 _ _ (bz_lv_mem.mp hq)⟩
theorem bz_l_st1 {LS : Array Slot} {nL i : Nat} {as t : List (Option Value)} {x : Option Value} {v : Value} (hi : as.length = i) (hc : ∀ w, as[i - 1]? = some w → bz_c2 w = false) (h : lv_has LS nL ((i, v) :: (bz_lv (as ++ x :: t)).filter (fun q => !(q.1 == i) && !(q.1 + 1 == i && q.2.category == 2)))) : bz_l LS nL (as ++ some v :: t) := by
  refine ⟨h.1, h.2.1, fun j w hj => ?_⟩
  by_cases e : j = i
  · subst e
    rw [List.getElem?_append_right (by omega), hi, Nat.sub_self] at hj
    cases hj
    exact h.2.2 (j, v) List.mem_cons_self
  · refine h.2.2 (j, w) (List.mem_cons_of_mem _ (List.mem_filter.mpr ⟨bz_lv_mem.mpr ?_, ?_⟩))
    · by_cases hl : j < i
      · rw [List.getElem?_append_left (by omega)] at hj ⊢
        exact hj
      · rw [List.getElem?_append_right (by omega)] at hj ⊢
        have : ∃ z, j - as.length = z + 1 := ⟨j - as.length - 1, by omega⟩
        obtain ⟨z, hz⟩ := this
        rw [hz] at hj ⊢
        exact hj
    · have e1 : (j == i) = false := by simp [e]
      by_cases e2 : j + 1 = i
      · have hw := hc (some w) (by
          rw [List.getElem?_append_left (by omega)] at hj
          rw [show i - 1 = j by omega]
          exact hj)
        simp [bz_c2] at hw
        simp [e, hw]
      · simp [e, e2]
theorem bz_l_st2 {LS : Array Slot} {nL i : Nat} {as t : List (Option Value)} {x y : Option Value} {v : Value} (hi : as.length = i) (hc : ∀ w, as[i - 1]? = some w → bz_c2 w = false) (h : lv_has LS nL ((i, v) :: (bz_lv (as ++ x :: y :: t)).filter (fun q => !(q.1 == i) && (!(q.1 == i + 1) && !(q.1 + 1 == i && q.2.category == 2))))) : bz_l LS nL (as ++ some v :: none :: t) := by
  refine ⟨h.1, h.2.1, fun j w hj => ?_⟩
  by_cases e : j = i
  · subst e
    rw [List.getElem?_append_right (by omega), hi, Nat.sub_self] at hj
    cases hj
    exact h.2.2 (j, v) List.mem_cons_self
  · by_cases e3 : j = i + 1
    · subst e3
      rw [List.getElem?_append_right (by omega), hi, show i + 1 - i = 1 by omega] at hj
      cases hj
    · refine h.2.2 (j, w) (List.mem_cons_of_mem _ (List.mem_filter.mpr ⟨bz_lv_mem.mpr ?_, ?_⟩))
      · by_cases hl : j < i
        · rw [List.getElem?_append_left (by omega)] at hj ⊢
          exact hj
        · rw [List.getElem?_append_right (by omega)] at hj ⊢
          have : ∃ z, j - as.length = z + 2 := ⟨j - as.length - 2, by omega⟩
          obtain ⟨z, hz⟩ := this
          rw [hz] at hj ⊢
          exact hj
      · by_cases e2 : j + 1 = i
        · have hw := hc (some w) (by
            rw [List.getElem?_append_left (by omega)] at hj
            rw [show i - 1 = j by omega]
            exact hj)
          simp [bz_c2] at hw
          simp [e, e3, hw]
        · simp [e, e2, e3]
theorem bz_l_weak {LS : Array Slot} {nL : Nat} {ls ls' : List (Option Value)} (h : bz_l LS nL ls) (hw : ∀ (i : Nat) (v : Value), ls'[i]? = some (some v) → ls[i]? = some (some v)) : bz_l LS nL ls' := ⟨h.1, h.2.1, fun i v q => h.2.2 i v (hw i v q)⟩
theorem bz_istoreG {v : Int32} {i : Nat} {as t : List (Option Value)} {x : Option Value} (hd : decode M.2.1 pc = .ok (.istore i, 2)) (hn : i < M.2.2.2.1) (hi : as.length = i) (hc : ∀ w, as[i - 1]? = some w → bz_c2 w = false) (k : bz_V l ad K n M d r σ' (pc + 2) (as ++ some (.int v) :: t) st σ) : bz_V l ad K n M d r σ' pc (as ++ x :: t) (.int v :: st) σ := by
  intro p e R s m args below meth c A Q mc ms C hR hQ H locs LS hP hS hl
  exact lv_istore C.1 C.2.1 hd (bz_l_has hl) hn rfl (fun LS' h' => k p e R s m args below meth c A Q mc ms C hR hQ H locs LS' hP hS (bz_l_st1 hi hc h'))
theorem bz_istoreGn {v : Int32} {i : Nat} {j : Fin 4} {as t : List (Option Value)} {x : Option Value} (hd : decode M.2.1 pc = .ok (.istore_n j, 1)) (hj : (j : Nat) = i) (hn : i < M.2.2.2.1) (hi : as.length = i) (hc : ∀ w, as[i - 1]? = some w → bz_c2 w = false) (k : bz_V l ad K n M d r σ' (pc + 1) (as ++ some (.int v) :: t) st σ) : bz_V l ad K n M d r σ' pc (as ++ x :: t) (.int v :: st) σ := by
  intro p e R s m args below meth c A Q mc ms C hR hQ H locs LS hP hS hl
  exact lv_istore_n C.1 C.2.1 hd hj (bz_l_has hl) hn rfl (fun LS' h' => k p e R s m args below meth c A Q mc ms C hR hQ H locs LS' hP hS (bz_l_st1 hi hc h'))
theorem bz_astoreG {v : Nat} {i : Nat} {as t : List (Option Value)} {x : Option Value} (hd : decode M.2.1 pc = .ok (.astore i, 2)) (hn : i < M.2.2.2.1) (hi : as.length = i) (hc : ∀ w, as[i - 1]? = some w → bz_c2 w = false) (k : bz_V l ad K n M d r σ' (pc + 2) (as ++ some (.ref v) :: t) st σ) : bz_V l ad K n M d r σ' pc (as ++ x :: t) (.ref v :: st) σ := by
  intro p e R s m args below meth c A Q mc ms C hR hQ H locs LS hP hS hl
  exact lv_astore C.1 C.2.1 hd (bz_l_has hl) hn rfl (fun LS' h' => k p e R s m args below meth c A Q mc ms C hR hQ H locs LS' hP hS (bz_l_st1 hi hc h'))
theorem bz_astoreGn {v : Nat} {i : Nat} {j : Fin 4} {as t : List (Option Value)} {x : Option Value} (hd : decode M.2.1 pc = .ok (.astore_n j, 1)) (hj : (j : Nat) = i) (hn : i < M.2.2.2.1) (hi : as.length = i) (hc : ∀ w, as[i - 1]? = some w → bz_c2 w = false) (k : bz_V l ad K n M d r σ' (pc + 1) (as ++ some (.ref v) :: t) st σ) : bz_V l ad K n M d r σ' pc (as ++ x :: t) (.ref v :: st) σ := by
  intro p e R s m args below meth c A Q mc ms C hR hQ H locs LS hP hS hl
  exact lv_astore_n C.1 C.2.1 hd hj (bz_l_has hl) hn rfl (fun LS' h' => k p e R s m args below meth c A Q mc ms C hR hQ H locs LS' hP hS (bz_l_st1 hi hc h'))
theorem bz_lstoreG {v : Int64} {i : Nat} {as t : List (Option Value)} {x y : Option Value} (hd : decode M.2.1 pc = .ok (.lstore i, 2)) (hn : i + 1 < M.2.2.2.1) (hi : as.length = i) (hc : ∀ w, as[i - 1]? = some w → bz_c2 w = false) (k : bz_V l ad K n M d r σ' (pc + 2) (as ++ some (.long v) :: none :: t) st σ) : bz_V l ad K n M d r σ' pc (as ++ x :: y :: t) (.long v :: st) σ := by
  intro p e R s m args below meth c A Q mc ms C hR hQ H locs LS hP hS hl
  exact lv_lstore C.1 C.2.1 hd (bz_l_has hl) hn rfl (fun LS' h' => k p e R s m args below meth c A Q mc ms C hR hQ H locs LS' hP hS (bz_l_st2 hi hc h'))
theorem bz_lstoreGn {v : Int64} {i : Nat} {j : Fin 4} {as t : List (Option Value)} {x y : Option Value} (hd : decode M.2.1 pc = .ok (.lstore_n j, 1)) (hj : (j : Nat) = i) (hn : i + 1 < M.2.2.2.1) (hi : as.length = i) (hc : ∀ w, as[i - 1]? = some w → bz_c2 w = false) (k : bz_V l ad K n M d r σ' (pc + 1) (as ++ some (.long v) :: none :: t) st σ) : bz_V l ad K n M d r σ' pc (as ++ x :: y :: t) (.long v :: st) σ := by
  intro p e R s m args below meth c A Q mc ms C hR hQ H locs LS hP hS hl
  exact lv_lstore_n C.1 C.2.1 hd hj (bz_l_has hl) hn rfl (fun LS' h' => k p e R s m args below meth c A Q mc ms C hR hQ H locs LS' hP hS (bz_l_st2 hi hc h'))
theorem bz_iincG {u v : Int32} {z : Int} {i : Nat} {as t : List (Option Value)} (hd : decode M.2.1 pc = .ok (.iinc i z, 3)) (hv : u + Int32.ofInt z = v) (hn : i < M.2.2.2.1) (hi : as.length = i) (hc : ∀ w, as[i - 1]? = some w → bz_c2 w = false) (k : bz_V l ad K n M d r σ' (pc + 3) (as ++ some (.int v) :: t) st σ) : bz_V l ad K n M d r σ' pc (as ++ some (.int u) :: t) st σ := by
  intro p e R s m args below meth c A Q mc ms C hR hQ H locs LS hP hS hl
  have hg : (i, Value.int u) ∈ bz_lv (as ++ some (.int u) :: t) := bz_lv_mem.mpr (by show (as ++ some (Value.int u) :: t)[i]? = _; rw [List.getElem?_append_right (by omega), hi, Nat.sub_self]; rfl)
  obtain ⟨j, hj⟩ := List.getElem?_of_mem hg
  exact lv_iinc C.1 C.2.1 hd (bz_l_has hl) hj hv hn rfl (fun LS' h' => k p e R s m args below meth c A Q mc ms C hR hQ H locs LS' hP hS (bz_l_st1 hi hc h'))
theorem bz_weak {ls' : List (Option Value)} (hw : ∀ (i : Nat) (v : Value), ls'[i]? = some (some v) → ls[i]? = some (some v)) (k : bz_V l ad K n M d r σ' pc ls' st σ) : bz_V l ad K n M d r σ' pc ls st σ := by
  intro p e R s m args below meth c A Q mc ms C hR hQ H locs LS hP hS hl
  exact k p e R s m args below meth c A Q mc ms C hR hQ H locs LS hP hS (bz_l_weak hl hw)
theorem bz_ist0 {v : Int32} {x : Option Value} {t : List (Option Value)} (hd : decode M.2.1 pc = .ok (.istore_n 0, 1)) (hn : 0 < M.2.2.2.1) (k : bz_V l ad K n M d r σ' (pc + 1) (some (.int v) :: t) st σ) : bz_V l ad K n M d r σ' pc (x :: t) (.int v :: st) σ := bz_istoreGn (as := []) hd rfl hn rfl (fun w h => by cases h) k
theorem bz_ast0 {v : Nat} {x : Option Value} {t : List (Option Value)} (hd : decode M.2.1 pc = .ok (.astore_n 0, 1)) (hn : 0 < M.2.2.2.1) (k : bz_V l ad K n M d r σ' (pc + 1) (some (.ref v) :: t) st σ) : bz_V l ad K n M d r σ' pc (x :: t) (.ref v :: st) σ := bz_astoreGn (as := []) hd rfl hn rfl (fun w h => by cases h) k
theorem bz_lst0 {v : Int64} {x y : Option Value} {t : List (Option Value)} (hd : decode M.2.1 pc = .ok (.lstore_n 0, 1)) (hn : 1 < M.2.2.2.1) (k : bz_V l ad K n M d r σ' (pc + 1) (some (.long v) :: none :: t) st σ) : bz_V l ad K n M d r σ' pc (x :: y :: t) (.long v :: st) σ := bz_lstoreGn (as := []) hd rfl hn rfl (fun w h => by cases h) k
theorem bz_iinc0 {u v : Int32} {z : Int} {t : List (Option Value)} (hd : decode M.2.1 pc = .ok (.iinc 0 z, 3)) (hv : u + Int32.ofInt z = v) (hn : 0 < M.2.2.2.1) (k : bz_V l ad K n M d r σ' (pc + 3) (some (.int v) :: t) st σ) : bz_V l ad K n M d r σ' pc (some (.int u) :: t) st σ := bz_iincG (as := []) hd hv hn rfl (fun w h => by cases h) k
theorem bz_iinc0N {a : Nat} {t : List (Option Value)} (hd : decode M.2.1 pc = .ok (.iinc 0 1, 3)) (hn : 0 < M.2.2.2.1) (k : bz_V l ad K n M d r σ' (pc + 3) (some (.int (nI (a + 1))) :: t) st σ) : bz_V l ad K n M d r σ' pc (some (.int (nI a)) :: t) st σ := bz_iinc0 hd (by rw [nI_succ]; rfl) hn k
theorem bz_idec0N {a : Nat} {t : List (Option Value)} (hd : decode M.2.1 pc = .ok (.iinc 0 (-1), 3)) (hn : 0 < M.2.2.2.1) (k : bz_V l ad K n M d r σ' (pc + 3) (some (.int (nI a)) :: t) st σ) : bz_V l ad K n M d r σ' pc (some (.int (nI (a + 1))) :: t) st σ := bz_iinc0 hd (pk_m1 a) hn k
theorem bz_ist1 {v : Int32} {x0 : Option Value} {x : Option Value} {t : List (Option Value)} (hd : decode M.2.1 pc = .ok (.istore_n 1, 1)) (hn : 1 < M.2.2.2.1) (hc : bz_c2 x0 = false) (k : bz_V l ad K n M d r σ' (pc + 1) (x0 :: some (.int v) :: t) st σ) : bz_V l ad K n M d r σ' pc (x0 :: x :: t) (.int v :: st) σ := bz_istoreGn (as := [x0]) hd rfl hn rfl (fun w h => by cases h; exact hc) k
theorem bz_ast1 {v : Nat} {x0 : Option Value} {x : Option Value} {t : List (Option Value)} (hd : decode M.2.1 pc = .ok (.astore_n 1, 1)) (hn : 1 < M.2.2.2.1) (hc : bz_c2 x0 = false) (k : bz_V l ad K n M d r σ' (pc + 1) (x0 :: some (.ref v) :: t) st σ) : bz_V l ad K n M d r σ' pc (x0 :: x :: t) (.ref v :: st) σ := bz_astoreGn (as := [x0]) hd rfl hn rfl (fun w h => by cases h; exact hc) k
theorem bz_lst1 {v : Int64} {x0 : Option Value} {x y : Option Value} {t : List (Option Value)} (hd : decode M.2.1 pc = .ok (.lstore_n 1, 1)) (hn : 2 < M.2.2.2.1) (hc : bz_c2 x0 = false) (k : bz_V l ad K n M d r σ' (pc + 1) (x0 :: some (.long v) :: none :: t) st σ) : bz_V l ad K n M d r σ' pc (x0 :: x :: y :: t) (.long v :: st) σ := bz_lstoreGn (as := [x0]) hd rfl hn rfl (fun w h => by cases h; exact hc) k
theorem bz_iinc1 {u v : Int32} {z : Int} {x0 : Option Value} {t : List (Option Value)} (hd : decode M.2.1 pc = .ok (.iinc 1 z, 3)) (hv : u + Int32.ofInt z = v) (hn : 1 < M.2.2.2.1) (hc : bz_c2 x0 = false) (k : bz_V l ad K n M d r σ' (pc + 3) (x0 :: some (.int v) :: t) st σ) : bz_V l ad K n M d r σ' pc (x0 :: some (.int u) :: t) st σ := bz_iincG (as := [x0]) hd hv hn rfl (fun w h => by cases h; exact hc) k
theorem bz_iinc1N {a : Nat} {x0 : Option Value} {t : List (Option Value)} (hd : decode M.2.1 pc = .ok (.iinc 1 1, 3)) (hn : 1 < M.2.2.2.1) (hc : bz_c2 x0 = false) (k : bz_V l ad K n M d r σ' (pc + 3) (x0 :: some (.int (nI (a + 1))) :: t) st σ) : bz_V l ad K n M d r σ' pc (x0 :: some (.int (nI a)) :: t) st σ := bz_iinc1 hd (by rw [nI_succ]; rfl) hn hc k
theorem bz_idec1N {a : Nat} {x0 : Option Value} {t : List (Option Value)} (hd : decode M.2.1 pc = .ok (.iinc 1 (-1), 3)) (hn : 1 < M.2.2.2.1) (hc : bz_c2 x0 = false) (k : bz_V l ad K n M d r σ' (pc + 3) (x0 :: some (.int (nI a)) :: t) st σ) : bz_V l ad K n M d r σ' pc (x0 :: some (.int (nI (a + 1))) :: t) st σ := bz_iinc1 hd (pk_m1 a) hn hc k
theorem bz_ist2 {v : Int32} {x0 x1 : Option Value} {x : Option Value} {t : List (Option Value)} (hd : decode M.2.1 pc = .ok (.istore_n 2, 1)) (hn : 2 < M.2.2.2.1) (hc : bz_c2 x1 = false) (k : bz_V l ad K n M d r σ' (pc + 1) (x0 :: x1 :: some (.int v) :: t) st σ) : bz_V l ad K n M d r σ' pc (x0 :: x1 :: x :: t) (.int v :: st) σ := bz_istoreGn (as := [x0, x1]) hd rfl hn rfl (fun w h => by cases h; exact hc) k
theorem bz_ast2 {v : Nat} {x0 x1 : Option Value} {x : Option Value} {t : List (Option Value)} (hd : decode M.2.1 pc = .ok (.astore_n 2, 1)) (hn : 2 < M.2.2.2.1) (hc : bz_c2 x1 = false) (k : bz_V l ad K n M d r σ' (pc + 1) (x0 :: x1 :: some (.ref v) :: t) st σ) : bz_V l ad K n M d r σ' pc (x0 :: x1 :: x :: t) (.ref v :: st) σ := bz_astoreGn (as := [x0, x1]) hd rfl hn rfl (fun w h => by cases h; exact hc) k
theorem bz_lst2 {v : Int64} {x0 x1 : Option Value} {x y : Option Value} {t : List (Option Value)} (hd : decode M.2.1 pc = .ok (.lstore_n 2, 1)) (hn : 3 < M.2.2.2.1) (hc : bz_c2 x1 = false) (k : bz_V l ad K n M d r σ' (pc + 1) (x0 :: x1 :: some (.long v) :: none :: t) st σ) : bz_V l ad K n M d r σ' pc (x0 :: x1 :: x :: y :: t) (.long v :: st) σ := bz_lstoreGn (as := [x0, x1]) hd rfl hn rfl (fun w h => by cases h; exact hc) k
theorem bz_iinc2 {u v : Int32} {z : Int} {x0 x1 : Option Value} {t : List (Option Value)} (hd : decode M.2.1 pc = .ok (.iinc 2 z, 3)) (hv : u + Int32.ofInt z = v) (hn : 2 < M.2.2.2.1) (hc : bz_c2 x1 = false) (k : bz_V l ad K n M d r σ' (pc + 3) (x0 :: x1 :: some (.int v) :: t) st σ) : bz_V l ad K n M d r σ' pc (x0 :: x1 :: some (.int u) :: t) st σ := bz_iincG (as := [x0, x1]) hd hv hn rfl (fun w h => by cases h; exact hc) k
theorem bz_iinc2N {a : Nat} {x0 x1 : Option Value} {t : List (Option Value)} (hd : decode M.2.1 pc = .ok (.iinc 2 1, 3)) (hn : 2 < M.2.2.2.1) (hc : bz_c2 x1 = false) (k : bz_V l ad K n M d r σ' (pc + 3) (x0 :: x1 :: some (.int (nI (a + 1))) :: t) st σ) : bz_V l ad K n M d r σ' pc (x0 :: x1 :: some (.int (nI a)) :: t) st σ := bz_iinc2 hd (by rw [nI_succ]; rfl) hn hc k
theorem bz_idec2N {a : Nat} {x0 x1 : Option Value} {t : List (Option Value)} (hd : decode M.2.1 pc = .ok (.iinc 2 (-1), 3)) (hn : 2 < M.2.2.2.1) (hc : bz_c2 x1 = false) (k : bz_V l ad K n M d r σ' (pc + 3) (x0 :: x1 :: some (.int (nI a)) :: t) st σ) : bz_V l ad K n M d r σ' pc (x0 :: x1 :: some (.int (nI (a + 1))) :: t) st σ := bz_iinc2 hd (pk_m1 a) hn hc k
theorem bz_ist3 {v : Int32} {x0 x1 x2 : Option Value} {x : Option Value} {t : List (Option Value)} (hd : decode M.2.1 pc = .ok (.istore_n 3, 1)) (hn : 3 < M.2.2.2.1) (hc : bz_c2 x2 = false) (k : bz_V l ad K n M d r σ' (pc + 1) (x0 :: x1 :: x2 :: some (.int v) :: t) st σ) : bz_V l ad K n M d r σ' pc (x0 :: x1 :: x2 :: x :: t) (.int v :: st) σ := bz_istoreGn (as := [x0, x1, x2]) hd rfl hn rfl (fun w h => by cases h; exact hc) k
theorem bz_ast3 {v : Nat} {x0 x1 x2 : Option Value} {x : Option Value} {t : List (Option Value)} (hd : decode M.2.1 pc = .ok (.astore_n 3, 1)) (hn : 3 < M.2.2.2.1) (hc : bz_c2 x2 = false) (k : bz_V l ad K n M d r σ' (pc + 1) (x0 :: x1 :: x2 :: some (.ref v) :: t) st σ) : bz_V l ad K n M d r σ' pc (x0 :: x1 :: x2 :: x :: t) (.ref v :: st) σ := bz_astoreGn (as := [x0, x1, x2]) hd rfl hn rfl (fun w h => by cases h; exact hc) k
theorem bz_lst3 {v : Int64} {x0 x1 x2 : Option Value} {x y : Option Value} {t : List (Option Value)} (hd : decode M.2.1 pc = .ok (.lstore_n 3, 1)) (hn : 4 < M.2.2.2.1) (hc : bz_c2 x2 = false) (k : bz_V l ad K n M d r σ' (pc + 1) (x0 :: x1 :: x2 :: some (.long v) :: none :: t) st σ) : bz_V l ad K n M d r σ' pc (x0 :: x1 :: x2 :: x :: y :: t) (.long v :: st) σ := bz_lstoreGn (as := [x0, x1, x2]) hd rfl hn rfl (fun w h => by cases h; exact hc) k
theorem bz_iinc3 {u v : Int32} {z : Int} {x0 x1 x2 : Option Value} {t : List (Option Value)} (hd : decode M.2.1 pc = .ok (.iinc 3 z, 3)) (hv : u + Int32.ofInt z = v) (hn : 3 < M.2.2.2.1) (hc : bz_c2 x2 = false) (k : bz_V l ad K n M d r σ' (pc + 3) (x0 :: x1 :: x2 :: some (.int v) :: t) st σ) : bz_V l ad K n M d r σ' pc (x0 :: x1 :: x2 :: some (.int u) :: t) st σ := bz_iincG (as := [x0, x1, x2]) hd hv hn rfl (fun w h => by cases h; exact hc) k
theorem bz_iinc3N {a : Nat} {x0 x1 x2 : Option Value} {t : List (Option Value)} (hd : decode M.2.1 pc = .ok (.iinc 3 1, 3)) (hn : 3 < M.2.2.2.1) (hc : bz_c2 x2 = false) (k : bz_V l ad K n M d r σ' (pc + 3) (x0 :: x1 :: x2 :: some (.int (nI (a + 1))) :: t) st σ) : bz_V l ad K n M d r σ' pc (x0 :: x1 :: x2 :: some (.int (nI a)) :: t) st σ := bz_iinc3 hd (by rw [nI_succ]; rfl) hn hc k
theorem bz_idec3N {a : Nat} {x0 x1 x2 : Option Value} {t : List (Option Value)} (hd : decode M.2.1 pc = .ok (.iinc 3 (-1), 3)) (hn : 3 < M.2.2.2.1) (hc : bz_c2 x2 = false) (k : bz_V l ad K n M d r σ' (pc + 3) (x0 :: x1 :: x2 :: some (.int (nI a)) :: t) st σ) : bz_V l ad K n M d r σ' pc (x0 :: x1 :: x2 :: some (.int (nI (a + 1))) :: t) st σ := bz_iinc3 hd (pk_m1 a) hn hc k
theorem bz_ist4 {v : Int32} {x0 x1 x2 x3 : Option Value} {x : Option Value} {t : List (Option Value)} (hd : decode M.2.1 pc = .ok (.istore 4, 2)) (hn : 4 < M.2.2.2.1) (hc : bz_c2 x3 = false) (k : bz_V l ad K n M d r σ' (pc + 2) (x0 :: x1 :: x2 :: x3 :: some (.int v) :: t) st σ) : bz_V l ad K n M d r σ' pc (x0 :: x1 :: x2 :: x3 :: x :: t) (.int v :: st) σ := bz_istoreG (as := [x0, x1, x2, x3]) hd hn rfl (fun w h => by cases h; exact hc) k
theorem bz_ast4 {v : Nat} {x0 x1 x2 x3 : Option Value} {x : Option Value} {t : List (Option Value)} (hd : decode M.2.1 pc = .ok (.astore 4, 2)) (hn : 4 < M.2.2.2.1) (hc : bz_c2 x3 = false) (k : bz_V l ad K n M d r σ' (pc + 2) (x0 :: x1 :: x2 :: x3 :: some (.ref v) :: t) st σ) : bz_V l ad K n M d r σ' pc (x0 :: x1 :: x2 :: x3 :: x :: t) (.ref v :: st) σ := bz_astoreG (as := [x0, x1, x2, x3]) hd hn rfl (fun w h => by cases h; exact hc) k
theorem bz_lst4 {v : Int64} {x0 x1 x2 x3 : Option Value} {x y : Option Value} {t : List (Option Value)} (hd : decode M.2.1 pc = .ok (.lstore 4, 2)) (hn : 5 < M.2.2.2.1) (hc : bz_c2 x3 = false) (k : bz_V l ad K n M d r σ' (pc + 2) (x0 :: x1 :: x2 :: x3 :: some (.long v) :: none :: t) st σ) : bz_V l ad K n M d r σ' pc (x0 :: x1 :: x2 :: x3 :: x :: y :: t) (.long v :: st) σ := bz_lstoreG (as := [x0, x1, x2, x3]) hd hn rfl (fun w h => by cases h; exact hc) k
theorem bz_iinc4 {u v : Int32} {z : Int} {x0 x1 x2 x3 : Option Value} {t : List (Option Value)} (hd : decode M.2.1 pc = .ok (.iinc 4 z, 3)) (hv : u + Int32.ofInt z = v) (hn : 4 < M.2.2.2.1) (hc : bz_c2 x3 = false) (k : bz_V l ad K n M d r σ' (pc + 3) (x0 :: x1 :: x2 :: x3 :: some (.int v) :: t) st σ) : bz_V l ad K n M d r σ' pc (x0 :: x1 :: x2 :: x3 :: some (.int u) :: t) st σ := bz_iincG (as := [x0, x1, x2, x3]) hd hv hn rfl (fun w h => by cases h; exact hc) k
theorem bz_iinc4N {a : Nat} {x0 x1 x2 x3 : Option Value} {t : List (Option Value)} (hd : decode M.2.1 pc = .ok (.iinc 4 1, 3)) (hn : 4 < M.2.2.2.1) (hc : bz_c2 x3 = false) (k : bz_V l ad K n M d r σ' (pc + 3) (x0 :: x1 :: x2 :: x3 :: some (.int (nI (a + 1))) :: t) st σ) : bz_V l ad K n M d r σ' pc (x0 :: x1 :: x2 :: x3 :: some (.int (nI a)) :: t) st σ := bz_iinc4 hd (by rw [nI_succ]; rfl) hn hc k
theorem bz_idec4N {a : Nat} {x0 x1 x2 x3 : Option Value} {t : List (Option Value)} (hd : decode M.2.1 pc = .ok (.iinc 4 (-1), 3)) (hn : 4 < M.2.2.2.1) (hc : bz_c2 x3 = false) (k : bz_V l ad K n M d r σ' (pc + 3) (x0 :: x1 :: x2 :: x3 :: some (.int (nI a)) :: t) st σ) : bz_V l ad K n M d r σ' pc (x0 :: x1 :: x2 :: x3 :: some (.int (nI (a + 1))) :: t) st σ := bz_iinc4 hd (pk_m1 a) hn hc k
theorem bz_ist5 {v : Int32} {x0 x1 x2 x3 x4 : Option Value} {x : Option Value} {t : List (Option Value)} (hd : decode M.2.1 pc = .ok (.istore 5, 2)) (hn : 5 < M.2.2.2.1) (hc : bz_c2 x4 = false) (k : bz_V l ad K n M d r σ' (pc + 2) (x0 :: x1 :: x2 :: x3 :: x4 :: some (.int v) :: t) st σ) : bz_V l ad K n M d r σ' pc (x0 :: x1 :: x2 :: x3 :: x4 :: x :: t) (.int v :: st) σ := bz_istoreG (as := [x0, x1, x2, x3, x4]) hd hn rfl (fun w h => by cases h; exact hc) k
theorem bz_ast5 {v : Nat} {x0 x1 x2 x3 x4 : Option Value} {x : Option Value} {t : List (Option Value)} (hd : decode M.2.1 pc = .ok (.astore 5, 2)) (hn : 5 < M.2.2.2.1) (hc : bz_c2 x4 = false) (k : bz_V l ad K n M d r σ' (pc + 2) (x0 :: x1 :: x2 :: x3 :: x4 :: some (.ref v) :: t) st σ) : bz_V l ad K n M d r σ' pc (x0 :: x1 :: x2 :: x3 :: x4 :: x :: t) (.ref v :: st) σ := bz_astoreG (as := [x0, x1, x2, x3, x4]) hd hn rfl (fun w h => by cases h; exact hc) k
theorem bz_lst5 {v : Int64} {x0 x1 x2 x3 x4 : Option Value} {x y : Option Value} {t : List (Option Value)} (hd : decode M.2.1 pc = .ok (.lstore 5, 2)) (hn : 6 < M.2.2.2.1) (hc : bz_c2 x4 = false) (k : bz_V l ad K n M d r σ' (pc + 2) (x0 :: x1 :: x2 :: x3 :: x4 :: some (.long v) :: none :: t) st σ) : bz_V l ad K n M d r σ' pc (x0 :: x1 :: x2 :: x3 :: x4 :: x :: y :: t) (.long v :: st) σ := bz_lstoreG (as := [x0, x1, x2, x3, x4]) hd hn rfl (fun w h => by cases h; exact hc) k
theorem bz_iinc5 {u v : Int32} {z : Int} {x0 x1 x2 x3 x4 : Option Value} {t : List (Option Value)} (hd : decode M.2.1 pc = .ok (.iinc 5 z, 3)) (hv : u + Int32.ofInt z = v) (hn : 5 < M.2.2.2.1) (hc : bz_c2 x4 = false) (k : bz_V l ad K n M d r σ' (pc + 3) (x0 :: x1 :: x2 :: x3 :: x4 :: some (.int v) :: t) st σ) : bz_V l ad K n M d r σ' pc (x0 :: x1 :: x2 :: x3 :: x4 :: some (.int u) :: t) st σ := bz_iincG (as := [x0, x1, x2, x3, x4]) hd hv hn rfl (fun w h => by cases h; exact hc) k
theorem bz_iinc5N {a : Nat} {x0 x1 x2 x3 x4 : Option Value} {t : List (Option Value)} (hd : decode M.2.1 pc = .ok (.iinc 5 1, 3)) (hn : 5 < M.2.2.2.1) (hc : bz_c2 x4 = false) (k : bz_V l ad K n M d r σ' (pc + 3) (x0 :: x1 :: x2 :: x3 :: x4 :: some (.int (nI (a + 1))) :: t) st σ) : bz_V l ad K n M d r σ' pc (x0 :: x1 :: x2 :: x3 :: x4 :: some (.int (nI a)) :: t) st σ := bz_iinc5 hd (by rw [nI_succ]; rfl) hn hc k
theorem bz_idec5N {a : Nat} {x0 x1 x2 x3 x4 : Option Value} {t : List (Option Value)} (hd : decode M.2.1 pc = .ok (.iinc 5 (-1), 3)) (hn : 5 < M.2.2.2.1) (hc : bz_c2 x4 = false) (k : bz_V l ad K n M d r σ' (pc + 3) (x0 :: x1 :: x2 :: x3 :: x4 :: some (.int (nI a)) :: t) st σ) : bz_V l ad K n M d r σ' pc (x0 :: x1 :: x2 :: x3 :: x4 :: some (.int (nI (a + 1))) :: t) st σ := bz_iinc5 hd (pk_m1 a) hn hc k
theorem bz_ist6 {v : Int32} {x0 x1 x2 x3 x4 x5 : Option Value} {x : Option Value} {t : List (Option Value)} (hd : decode M.2.1 pc = .ok (.istore 6, 2)) (hn : 6 < M.2.2.2.1) (hc : bz_c2 x5 = false) (k : bz_V l ad K n M d r σ' (pc + 2) (x0 :: x1 :: x2 :: x3 :: x4 :: x5 :: some (.int v) :: t) st σ) : bz_V l ad K n M d r σ' pc (x0 :: x1 :: x2 :: x3 :: x4 :: x5 :: x :: t) (.int v :: st) σ := bz_istoreG (as := [x0, x1, x2, x3, x4, x5]) hd hn rfl (fun w h => by cases h; exact hc) k
theorem bz_ast6 {v : Nat} {x0 x1 x2 x3 x4 x5 : Option Value} {x : Option Value} {t : List (Option Value)} (hd : decode M.2.1 pc = .ok (.astore 6, 2)) (hn : 6 < M.2.2.2.1) (hc : bz_c2 x5 = false) (k : bz_V l ad K n M d r σ' (pc + 2) (x0 :: x1 :: x2 :: x3 :: x4 :: x5 :: some (.ref v) :: t) st σ) : bz_V l ad K n M d r σ' pc (x0 :: x1 :: x2 :: x3 :: x4 :: x5 :: x :: t) (.ref v :: st) σ := bz_astoreG (as := [x0, x1, x2, x3, x4, x5]) hd hn rfl (fun w h => by cases h; exact hc) k
theorem bz_lst6 {v : Int64} {x0 x1 x2 x3 x4 x5 : Option Value} {x y : Option Value} {t : List (Option Value)} (hd : decode M.2.1 pc = .ok (.lstore 6, 2)) (hn : 7 < M.2.2.2.1) (hc : bz_c2 x5 = false) (k : bz_V l ad K n M d r σ' (pc + 2) (x0 :: x1 :: x2 :: x3 :: x4 :: x5 :: some (.long v) :: none :: t) st σ) : bz_V l ad K n M d r σ' pc (x0 :: x1 :: x2 :: x3 :: x4 :: x5 :: x :: y :: t) (.long v :: st) σ := bz_lstoreG (as := [x0, x1, x2, x3, x4, x5]) hd hn rfl (fun w h => by cases h; exact hc) k
theorem bz_iinc6 {u v : Int32} {z : Int} {x0 x1 x2 x3 x4 x5 : Option Value} {t : List (Option Value)} (hd : decode M.2.1 pc = .ok (.iinc 6 z, 3)) (hv : u + Int32.ofInt z = v) (hn : 6 < M.2.2.2.1) (hc : bz_c2 x5 = false) (k : bz_V l ad K n M d r σ' (pc + 3) (x0 :: x1 :: x2 :: x3 :: x4 :: x5 :: some (.int v) :: t) st σ) : bz_V l ad K n M d r σ' pc (x0 :: x1 :: x2 :: x3 :: x4 :: x5 :: some (.int u) :: t) st σ := bz_iincG (as := [x0, x1, x2, x3, x4, x5]) hd hv hn rfl (fun w h => by cases h; exact hc) k
theorem bz_iinc6N {a : Nat} {x0 x1 x2 x3 x4 x5 : Option Value} {t : List (Option Value)} (hd : decode M.2.1 pc = .ok (.iinc 6 1, 3)) (hn : 6 < M.2.2.2.1) (hc : bz_c2 x5 = false) (k : bz_V l ad K n M d r σ' (pc + 3) (x0 :: x1 :: x2 :: x3 :: x4 :: x5 :: some (.int (nI (a + 1))) :: t) st σ) : bz_V l ad K n M d r σ' pc (x0 :: x1 :: x2 :: x3 :: x4 :: x5 :: some (.int (nI a)) :: t) st σ := bz_iinc6 hd (by rw [nI_succ]; rfl) hn hc k
theorem bz_idec6N {a : Nat} {x0 x1 x2 x3 x4 x5 : Option Value} {t : List (Option Value)} (hd : decode M.2.1 pc = .ok (.iinc 6 (-1), 3)) (hn : 6 < M.2.2.2.1) (hc : bz_c2 x5 = false) (k : bz_V l ad K n M d r σ' (pc + 3) (x0 :: x1 :: x2 :: x3 :: x4 :: x5 :: some (.int (nI a)) :: t) st σ) : bz_V l ad K n M d r σ' pc (x0 :: x1 :: x2 :: x3 :: x4 :: x5 :: some (.int (nI (a + 1))) :: t) st σ := bz_iinc6 hd (pk_m1 a) hn hc k
theorem bz_ist7 {v : Int32} {x0 x1 x2 x3 x4 x5 x6 : Option Value} {x : Option Value} {t : List (Option Value)} (hd : decode M.2.1 pc = .ok (.istore 7, 2)) (hn : 7 < M.2.2.2.1) (hc : bz_c2 x6 = false) (k : bz_V l ad K n M d r σ' (pc + 2) (x0 :: x1 :: x2 :: x3 :: x4 :: x5 :: x6 :: some (.int v) :: t) st σ) : bz_V l ad K n M d r σ' pc (x0 :: x1 :: x2 :: x3 :: x4 :: x5 :: x6 :: x :: t) (.int v :: st) σ := bz_istoreG (as := [x0, x1, x2, x3, x4, x5, x6]) hd hn rfl (fun w h => by cases h; exact hc) k
theorem bz_ast7 {v : Nat} {x0 x1 x2 x3 x4 x5 x6 : Option Value} {x : Option Value} {t : List (Option Value)} (hd : decode M.2.1 pc = .ok (.astore 7, 2)) (hn : 7 < M.2.2.2.1) (hc : bz_c2 x6 = false) (k : bz_V l ad K n M d r σ' (pc + 2) (x0 :: x1 :: x2 :: x3 :: x4 :: x5 :: x6 :: some (.ref v) :: t) st σ) : bz_V l ad K n M d r σ' pc (x0 :: x1 :: x2 :: x3 :: x4 :: x5 :: x6 :: x :: t) (.ref v :: st) σ := bz_astoreG (as := [x0, x1, x2, x3, x4, x5, x6]) hd hn rfl (fun w h => by cases h; exact hc) k
theorem bz_lst7 {v : Int64} {x0 x1 x2 x3 x4 x5 x6 : Option Value} {x y : Option Value} {t : List (Option Value)} (hd : decode M.2.1 pc = .ok (.lstore 7, 2)) (hn : 8 < M.2.2.2.1) (hc : bz_c2 x6 = false) (k : bz_V l ad K n M d r σ' (pc + 2) (x0 :: x1 :: x2 :: x3 :: x4 :: x5 :: x6 :: some (.long v) :: none :: t) st σ) : bz_V l ad K n M d r σ' pc (x0 :: x1 :: x2 :: x3 :: x4 :: x5 :: x6 :: x :: y :: t) (.long v :: st) σ := bz_lstoreG (as := [x0, x1, x2, x3, x4, x5, x6]) hd hn rfl (fun w h => by cases h; exact hc) k
theorem bz_iinc7 {u v : Int32} {z : Int} {x0 x1 x2 x3 x4 x5 x6 : Option Value} {t : List (Option Value)} (hd : decode M.2.1 pc = .ok (.iinc 7 z, 3)) (hv : u + Int32.ofInt z = v) (hn : 7 < M.2.2.2.1) (hc : bz_c2 x6 = false) (k : bz_V l ad K n M d r σ' (pc + 3) (x0 :: x1 :: x2 :: x3 :: x4 :: x5 :: x6 :: some (.int v) :: t) st σ) : bz_V l ad K n M d r σ' pc (x0 :: x1 :: x2 :: x3 :: x4 :: x5 :: x6 :: some (.int u) :: t) st σ := bz_iincG (as := [x0, x1, x2, x3, x4, x5, x6]) hd hv hn rfl (fun w h => by cases h; exact hc) k
theorem bz_iinc7N {a : Nat} {x0 x1 x2 x3 x4 x5 x6 : Option Value} {t : List (Option Value)} (hd : decode M.2.1 pc = .ok (.iinc 7 1, 3)) (hn : 7 < M.2.2.2.1) (hc : bz_c2 x6 = false) (k : bz_V l ad K n M d r σ' (pc + 3) (x0 :: x1 :: x2 :: x3 :: x4 :: x5 :: x6 :: some (.int (nI (a + 1))) :: t) st σ) : bz_V l ad K n M d r σ' pc (x0 :: x1 :: x2 :: x3 :: x4 :: x5 :: x6 :: some (.int (nI a)) :: t) st σ := bz_iinc7 hd (by rw [nI_succ]; rfl) hn hc k
theorem bz_idec7N {a : Nat} {x0 x1 x2 x3 x4 x5 x6 : Option Value} {t : List (Option Value)} (hd : decode M.2.1 pc = .ok (.iinc 7 (-1), 3)) (hn : 7 < M.2.2.2.1) (hc : bz_c2 x6 = false) (k : bz_V l ad K n M d r σ' (pc + 3) (x0 :: x1 :: x2 :: x3 :: x4 :: x5 :: x6 :: some (.int (nI a)) :: t) st σ) : bz_V l ad K n M d r σ' pc (x0 :: x1 :: x2 :: x3 :: x4 :: x5 :: x6 :: some (.int (nI (a + 1))) :: t) st σ := bz_iinc7 hd (pk_m1 a) hn hc k
theorem bz_ist8 {v : Int32} {x0 x1 x2 x3 x4 x5 x6 x7 : Option Value} {x : Option Value} {t : List (Option Value)} (hd : decode M.2.1 pc = .ok (.istore 8, 2)) (hn : 8 < M.2.2.2.1) (hc : bz_c2 x7 = false) (k : bz_V l ad K n M d r σ' (pc + 2) (x0 :: x1 :: x2 :: x3 :: x4 :: x5 :: x6 :: x7 :: some (.int v) :: t) st σ) : bz_V l ad K n M d r σ' pc (x0 :: x1 :: x2 :: x3 :: x4 :: x5 :: x6 :: x7 :: x :: t) (.int v :: st) σ := bz_istoreG (as := [x0, x1, x2, x3, x4, x5, x6, x7]) hd hn rfl (fun w h => by cases h; exact hc) k
theorem bz_ast8 {v : Nat} {x0 x1 x2 x3 x4 x5 x6 x7 : Option Value} {x : Option Value} {t : List (Option Value)} (hd : decode M.2.1 pc = .ok (.astore 8, 2)) (hn : 8 < M.2.2.2.1) (hc : bz_c2 x7 = false) (k : bz_V l ad K n M d r σ' (pc + 2) (x0 :: x1 :: x2 :: x3 :: x4 :: x5 :: x6 :: x7 :: some (.ref v) :: t) st σ) : bz_V l ad K n M d r σ' pc (x0 :: x1 :: x2 :: x3 :: x4 :: x5 :: x6 :: x7 :: x :: t) (.ref v :: st) σ := bz_astoreG (as := [x0, x1, x2, x3, x4, x5, x6, x7]) hd hn rfl (fun w h => by cases h; exact hc) k
theorem bz_lst8 {v : Int64} {x0 x1 x2 x3 x4 x5 x6 x7 : Option Value} {x y : Option Value} {t : List (Option Value)} (hd : decode M.2.1 pc = .ok (.lstore 8, 2)) (hn : 9 < M.2.2.2.1) (hc : bz_c2 x7 = false) (k : bz_V l ad K n M d r σ' (pc + 2) (x0 :: x1 :: x2 :: x3 :: x4 :: x5 :: x6 :: x7 :: some (.long v) :: none :: t) st σ) : bz_V l ad K n M d r σ' pc (x0 :: x1 :: x2 :: x3 :: x4 :: x5 :: x6 :: x7 :: x :: y :: t) (.long v :: st) σ := bz_lstoreG (as := [x0, x1, x2, x3, x4, x5, x6, x7]) hd hn rfl (fun w h => by cases h; exact hc) k
theorem bz_iinc8 {u v : Int32} {z : Int} {x0 x1 x2 x3 x4 x5 x6 x7 : Option Value} {t : List (Option Value)} (hd : decode M.2.1 pc = .ok (.iinc 8 z, 3)) (hv : u + Int32.ofInt z = v) (hn : 8 < M.2.2.2.1) (hc : bz_c2 x7 = false) (k : bz_V l ad K n M d r σ' (pc + 3) (x0 :: x1 :: x2 :: x3 :: x4 :: x5 :: x6 :: x7 :: some (.int v) :: t) st σ) : bz_V l ad K n M d r σ' pc (x0 :: x1 :: x2 :: x3 :: x4 :: x5 :: x6 :: x7 :: some (.int u) :: t) st σ := bz_iincG (as := [x0, x1, x2, x3, x4, x5, x6, x7]) hd hv hn rfl (fun w h => by cases h; exact hc) k
theorem bz_iinc8N {a : Nat} {x0 x1 x2 x3 x4 x5 x6 x7 : Option Value} {t : List (Option Value)} (hd : decode M.2.1 pc = .ok (.iinc 8 1, 3)) (hn : 8 < M.2.2.2.1) (hc : bz_c2 x7 = false) (k : bz_V l ad K n M d r σ' (pc + 3) (x0 :: x1 :: x2 :: x3 :: x4 :: x5 :: x6 :: x7 :: some (.int (nI (a + 1))) :: t) st σ) : bz_V l ad K n M d r σ' pc (x0 :: x1 :: x2 :: x3 :: x4 :: x5 :: x6 :: x7 :: some (.int (nI a)) :: t) st σ := bz_iinc8 hd (by rw [nI_succ]; rfl) hn hc k
theorem bz_idec8N {a : Nat} {x0 x1 x2 x3 x4 x5 x6 x7 : Option Value} {t : List (Option Value)} (hd : decode M.2.1 pc = .ok (.iinc 8 (-1), 3)) (hn : 8 < M.2.2.2.1) (hc : bz_c2 x7 = false) (k : bz_V l ad K n M d r σ' (pc + 3) (x0 :: x1 :: x2 :: x3 :: x4 :: x5 :: x6 :: x7 :: some (.int (nI a)) :: t) st σ) : bz_V l ad K n M d r σ' pc (x0 :: x1 :: x2 :: x3 :: x4 :: x5 :: x6 :: x7 :: some (.int (nI (a + 1))) :: t) st σ := bz_iinc8 hd (pk_m1 a) hn hc k
theorem bz_ist9 {v : Int32} {x0 x1 x2 x3 x4 x5 x6 x7 x8 : Option Value} {x : Option Value} {t : List (Option Value)} (hd : decode M.2.1 pc = .ok (.istore 9, 2)) (hn : 9 < M.2.2.2.1) (hc : bz_c2 x8 = false) (k : bz_V l ad K n M d r σ' (pc + 2) (x0 :: x1 :: x2 :: x3 :: x4 :: x5 :: x6 :: x7 :: x8 :: some (.int v) :: t) st σ) : bz_V l ad K n M d r σ' pc (x0 :: x1 :: x2 :: x3 :: x4 :: x5 :: x6 :: x7 :: x8 :: x :: t) (.int v :: st) σ := bz_istoreG (as := [x0, x1, x2, x3, x4, x5, x6, x7, x8]) hd hn rfl (fun w h => by cases h; exact hc) k
theorem bz_ast9 {v : Nat} {x0 x1 x2 x3 x4 x5 x6 x7 x8 : Option Value} {x : Option Value} {t : List (Option Value)} (hd : decode M.2.1 pc = .ok (.astore 9, 2)) (hn : 9 < M.2.2.2.1) (hc : bz_c2 x8 = false) (k : bz_V l ad K n M d r σ' (pc + 2) (x0 :: x1 :: x2 :: x3 :: x4 :: x5 :: x6 :: x7 :: x8 :: some (.ref v) :: t) st σ) : bz_V l ad K n M d r σ' pc (x0 :: x1 :: x2 :: x3 :: x4 :: x5 :: x6 :: x7 :: x8 :: x :: t) (.ref v :: st) σ := bz_astoreG (as := [x0, x1, x2, x3, x4, x5, x6, x7, x8]) hd hn rfl (fun w h => by cases h; exact hc) k
theorem bz_lst9 {v : Int64} {x0 x1 x2 x3 x4 x5 x6 x7 x8 : Option Value} {x y : Option Value} {t : List (Option Value)} (hd : decode M.2.1 pc = .ok (.lstore 9, 2)) (hn : 10 < M.2.2.2.1) (hc : bz_c2 x8 = false) (k : bz_V l ad K n M d r σ' (pc + 2) (x0 :: x1 :: x2 :: x3 :: x4 :: x5 :: x6 :: x7 :: x8 :: some (.long v) :: none :: t) st σ) : bz_V l ad K n M d r σ' pc (x0 :: x1 :: x2 :: x3 :: x4 :: x5 :: x6 :: x7 :: x8 :: x :: y :: t) (.long v :: st) σ := bz_lstoreG (as := [x0, x1, x2, x3, x4, x5, x6, x7, x8]) hd hn rfl (fun w h => by cases h; exact hc) k
theorem bz_iinc9 {u v : Int32} {z : Int} {x0 x1 x2 x3 x4 x5 x6 x7 x8 : Option Value} {t : List (Option Value)} (hd : decode M.2.1 pc = .ok (.iinc 9 z, 3)) (hv : u + Int32.ofInt z = v) (hn : 9 < M.2.2.2.1) (hc : bz_c2 x8 = false) (k : bz_V l ad K n M d r σ' (pc + 3) (x0 :: x1 :: x2 :: x3 :: x4 :: x5 :: x6 :: x7 :: x8 :: some (.int v) :: t) st σ) : bz_V l ad K n M d r σ' pc (x0 :: x1 :: x2 :: x3 :: x4 :: x5 :: x6 :: x7 :: x8 :: some (.int u) :: t) st σ := bz_iincG (as := [x0, x1, x2, x3, x4, x5, x6, x7, x8]) hd hv hn rfl (fun w h => by cases h; exact hc) k
theorem bz_iinc9N {a : Nat} {x0 x1 x2 x3 x4 x5 x6 x7 x8 : Option Value} {t : List (Option Value)} (hd : decode M.2.1 pc = .ok (.iinc 9 1, 3)) (hn : 9 < M.2.2.2.1) (hc : bz_c2 x8 = false) (k : bz_V l ad K n M d r σ' (pc + 3) (x0 :: x1 :: x2 :: x3 :: x4 :: x5 :: x6 :: x7 :: x8 :: some (.int (nI (a + 1))) :: t) st σ) : bz_V l ad K n M d r σ' pc (x0 :: x1 :: x2 :: x3 :: x4 :: x5 :: x6 :: x7 :: x8 :: some (.int (nI a)) :: t) st σ := bz_iinc9 hd (by rw [nI_succ]; rfl) hn hc k
theorem bz_idec9N {a : Nat} {x0 x1 x2 x3 x4 x5 x6 x7 x8 : Option Value} {t : List (Option Value)} (hd : decode M.2.1 pc = .ok (.iinc 9 (-1), 3)) (hn : 9 < M.2.2.2.1) (hc : bz_c2 x8 = false) (k : bz_V l ad K n M d r σ' (pc + 3) (x0 :: x1 :: x2 :: x3 :: x4 :: x5 :: x6 :: x7 :: x8 :: some (.int (nI a)) :: t) st σ) : bz_V l ad K n M d r σ' pc (x0 :: x1 :: x2 :: x3 :: x4 :: x5 :: x6 :: x7 :: x8 :: some (.int (nI (a + 1))) :: t) st σ := bz_iinc9 hd (pk_m1 a) hn hc k
theorem bz_ist10 {v : Int32} {x0 x1 x2 x3 x4 x5 x6 x7 x8 x9 : Option Value} {x : Option Value} {t : List (Option Value)} (hd : decode M.2.1 pc = .ok (.istore 10, 2)) (hn : 10 < M.2.2.2.1) (hc : bz_c2 x9 = false) (k : bz_V l ad K n M d r σ' (pc + 2) (x0 :: x1 :: x2 :: x3 :: x4 :: x5 :: x6 :: x7 :: x8 :: x9 :: some (.int v) :: t) st σ) : bz_V l ad K n M d r σ' pc (x0 :: x1 :: x2 :: x3 :: x4 :: x5 :: x6 :: x7 :: x8 :: x9 :: x :: t) (.int v :: st) σ := bz_istoreG (as := [x0, x1, x2, x3, x4, x5, x6, x7, x8, x9]) hd hn rfl (fun w h => by cases h; exact hc) k
theorem bz_ast10 {v : Nat} {x0 x1 x2 x3 x4 x5 x6 x7 x8 x9 : Option Value} {x : Option Value} {t : List (Option Value)} (hd : decode M.2.1 pc = .ok (.astore 10, 2)) (hn : 10 < M.2.2.2.1) (hc : bz_c2 x9 = false) (k : bz_V l ad K n M d r σ' (pc + 2) (x0 :: x1 :: x2 :: x3 :: x4 :: x5 :: x6 :: x7 :: x8 :: x9 :: some (.ref v) :: t) st σ) : bz_V l ad K n M d r σ' pc (x0 :: x1 :: x2 :: x3 :: x4 :: x5 :: x6 :: x7 :: x8 :: x9 :: x :: t) (.ref v :: st) σ := bz_astoreG (as := [x0, x1, x2, x3, x4, x5, x6, x7, x8, x9]) hd hn rfl (fun w h => by cases h; exact hc) k
theorem bz_lst10 {v : Int64} {x0 x1 x2 x3 x4 x5 x6 x7 x8 x9 : Option Value} {x y : Option Value} {t : List (Option Value)} (hd : decode M.2.1 pc = .ok (.lstore 10, 2)) (hn : 11 < M.2.2.2.1) (hc : bz_c2 x9 = false) (k : bz_V l ad K n M d r σ' (pc + 2) (x0 :: x1 :: x2 :: x3 :: x4 :: x5 :: x6 :: x7 :: x8 :: x9 :: some (.long v) :: none :: t) st σ) : bz_V l ad K n M d r σ' pc (x0 :: x1 :: x2 :: x3 :: x4 :: x5 :: x6 :: x7 :: x8 :: x9 :: x :: y :: t) (.long v :: st) σ := bz_lstoreG (as := [x0, x1, x2, x3, x4, x5, x6, x7, x8, x9]) hd hn rfl (fun w h => by cases h; exact hc) k
theorem bz_iinc10 {u v : Int32} {z : Int} {x0 x1 x2 x3 x4 x5 x6 x7 x8 x9 : Option Value} {t : List (Option Value)} (hd : decode M.2.1 pc = .ok (.iinc 10 z, 3)) (hv : u + Int32.ofInt z = v) (hn : 10 < M.2.2.2.1) (hc : bz_c2 x9 = false) (k : bz_V l ad K n M d r σ' (pc + 3) (x0 :: x1 :: x2 :: x3 :: x4 :: x5 :: x6 :: x7 :: x8 :: x9 :: some (.int v) :: t) st σ) : bz_V l ad K n M d r σ' pc (x0 :: x1 :: x2 :: x3 :: x4 :: x5 :: x6 :: x7 :: x8 :: x9 :: some (.int u) :: t) st σ := bz_iincG (as := [x0, x1, x2, x3, x4, x5, x6, x7, x8, x9]) hd hv hn rfl (fun w h => by cases h; exact hc) k
theorem bz_iinc10N {a : Nat} {x0 x1 x2 x3 x4 x5 x6 x7 x8 x9 : Option Value} {t : List (Option Value)} (hd : decode M.2.1 pc = .ok (.iinc 10 1, 3)) (hn : 10 < M.2.2.2.1) (hc : bz_c2 x9 = false) (k : bz_V l ad K n M d r σ' (pc + 3) (x0 :: x1 :: x2 :: x3 :: x4 :: x5 :: x6 :: x7 :: x8 :: x9 :: some (.int (nI (a + 1))) :: t) st σ) : bz_V l ad K n M d r σ' pc (x0 :: x1 :: x2 :: x3 :: x4 :: x5 :: x6 :: x7 :: x8 :: x9 :: some (.int (nI a)) :: t) st σ := bz_iinc10 hd (by rw [nI_succ]; rfl) hn hc k
theorem bz_idec10N {a : Nat} {x0 x1 x2 x3 x4 x5 x6 x7 x8 x9 : Option Value} {t : List (Option Value)} (hd : decode M.2.1 pc = .ok (.iinc 10 (-1), 3)) (hn : 10 < M.2.2.2.1) (hc : bz_c2 x9 = false) (k : bz_V l ad K n M d r σ' (pc + 3) (x0 :: x1 :: x2 :: x3 :: x4 :: x5 :: x6 :: x7 :: x8 :: x9 :: some (.int (nI a)) :: t) st σ) : bz_V l ad K n M d r σ' pc (x0 :: x1 :: x2 :: x3 :: x4 :: x5 :: x6 :: x7 :: x8 :: x9 :: some (.int (nI (a + 1))) :: t) st σ := bz_iinc10 hd (pk_m1 a) hn hc k
theorem bz_ist11 {v : Int32} {x0 x1 x2 x3 x4 x5 x6 x7 x8 x9 x10 : Option Value} {x : Option Value} {t : List (Option Value)} (hd : decode M.2.1 pc = .ok (.istore 11, 2)) (hn : 11 < M.2.2.2.1) (hc : bz_c2 x10 = false) (k : bz_V l ad K n M d r σ' (pc + 2) (x0 :: x1 :: x2 :: x3 :: x4 :: x5 :: x6 :: x7 :: x8 :: x9 :: x10 :: some (.int v) :: t) st σ) : bz_V l ad K n M d r σ' pc (x0 :: x1 :: x2 :: x3 :: x4 :: x5 :: x6 :: x7 :: x8 :: x9 :: x10 :: x :: t) (.int v :: st) σ := bz_istoreG (as := [x0, x1, x2, x3, x4, x5, x6, x7, x8, x9, x10]) hd hn rfl (fun w h => by cases h; exact hc) k
theorem bz_ast11 {v : Nat} {x0 x1 x2 x3 x4 x5 x6 x7 x8 x9 x10 : Option Value} {x : Option Value} {t : List (Option Value)} (hd : decode M.2.1 pc = .ok (.astore 11, 2)) (hn : 11 < M.2.2.2.1) (hc : bz_c2 x10 = false) (k : bz_V l ad K n M d r σ' (pc + 2) (x0 :: x1 :: x2 :: x3 :: x4 :: x5 :: x6 :: x7 :: x8 :: x9 :: x10 :: some (.ref v) :: t) st σ) : bz_V l ad K n M d r σ' pc (x0 :: x1 :: x2 :: x3 :: x4 :: x5 :: x6 :: x7 :: x8 :: x9 :: x10 :: x :: t) (.ref v :: st) σ := bz_astoreG (as := [x0, x1, x2, x3, x4, x5, x6, x7, x8, x9, x10]) hd hn rfl (fun w h => by cases h; exact hc) k
theorem bz_lst11 {v : Int64} {x0 x1 x2 x3 x4 x5 x6 x7 x8 x9 x10 : Option Value} {x y : Option Value} {t : List (Option Value)} (hd : decode M.2.1 pc = .ok (.lstore 11, 2)) (hn : 12 < M.2.2.2.1) (hc : bz_c2 x10 = false) (k : bz_V l ad K n M d r σ' (pc + 2) (x0 :: x1 :: x2 :: x3 :: x4 :: x5 :: x6 :: x7 :: x8 :: x9 :: x10 :: some (.long v) :: none :: t) st σ) : bz_V l ad K n M d r σ' pc (x0 :: x1 :: x2 :: x3 :: x4 :: x5 :: x6 :: x7 :: x8 :: x9 :: x10 :: x :: y :: t) (.long v :: st) σ := bz_lstoreG (as := [x0, x1, x2, x3, x4, x5, x6, x7, x8, x9, x10]) hd hn rfl (fun w h => by cases h; exact hc) k
theorem bz_iinc11 {u v : Int32} {z : Int} {x0 x1 x2 x3 x4 x5 x6 x7 x8 x9 x10 : Option Value} {t : List (Option Value)} (hd : decode M.2.1 pc = .ok (.iinc 11 z, 3)) (hv : u + Int32.ofInt z = v) (hn : 11 < M.2.2.2.1) (hc : bz_c2 x10 = false) (k : bz_V l ad K n M d r σ' (pc + 3) (x0 :: x1 :: x2 :: x3 :: x4 :: x5 :: x6 :: x7 :: x8 :: x9 :: x10 :: some (.int v) :: t) st σ) : bz_V l ad K n M d r σ' pc (x0 :: x1 :: x2 :: x3 :: x4 :: x5 :: x6 :: x7 :: x8 :: x9 :: x10 :: some (.int u) :: t) st σ := bz_iincG (as := [x0, x1, x2, x3, x4, x5, x6, x7, x8, x9, x10]) hd hv hn rfl (fun w h => by cases h; exact hc) k
theorem bz_iinc11N {a : Nat} {x0 x1 x2 x3 x4 x5 x6 x7 x8 x9 x10 : Option Value} {t : List (Option Value)} (hd : decode M.2.1 pc = .ok (.iinc 11 1, 3)) (hn : 11 < M.2.2.2.1) (hc : bz_c2 x10 = false) (k : bz_V l ad K n M d r σ' (pc + 3) (x0 :: x1 :: x2 :: x3 :: x4 :: x5 :: x6 :: x7 :: x8 :: x9 :: x10 :: some (.int (nI (a + 1))) :: t) st σ) : bz_V l ad K n M d r σ' pc (x0 :: x1 :: x2 :: x3 :: x4 :: x5 :: x6 :: x7 :: x8 :: x9 :: x10 :: some (.int (nI a)) :: t) st σ := bz_iinc11 hd (by rw [nI_succ]; rfl) hn hc k
theorem bz_idec11N {a : Nat} {x0 x1 x2 x3 x4 x5 x6 x7 x8 x9 x10 : Option Value} {t : List (Option Value)} (hd : decode M.2.1 pc = .ok (.iinc 11 (-1), 3)) (hn : 11 < M.2.2.2.1) (hc : bz_c2 x10 = false) (k : bz_V l ad K n M d r σ' (pc + 3) (x0 :: x1 :: x2 :: x3 :: x4 :: x5 :: x6 :: x7 :: x8 :: x9 :: x10 :: some (.int (nI a)) :: t) st σ) : bz_V l ad K n M d r σ' pc (x0 :: x1 :: x2 :: x3 :: x4 :: x5 :: x6 :: x7 :: x8 :: x9 :: x10 :: some (.int (nI (a + 1))) :: t) st σ := bz_iinc11 hd (pk_m1 a) hn hc k
theorem bz_ist12 {v : Int32} {x0 x1 x2 x3 x4 x5 x6 x7 x8 x9 x10 x11 : Option Value} {x : Option Value} {t : List (Option Value)} (hd : decode M.2.1 pc = .ok (.istore 12, 2)) (hn : 12 < M.2.2.2.1) (hc : bz_c2 x11 = false) (k : bz_V l ad K n M d r σ' (pc + 2) (x0 :: x1 :: x2 :: x3 :: x4 :: x5 :: x6 :: x7 :: x8 :: x9 :: x10 :: x11 :: some (.int v) :: t) st σ) : bz_V l ad K n M d r σ' pc (x0 :: x1 :: x2 :: x3 :: x4 :: x5 :: x6 :: x7 :: x8 :: x9 :: x10 :: x11 :: x :: t) (.int v :: st) σ := bz_istoreG (as := [x0, x1, x2, x3, x4, x5, x6, x7, x8, x9, x10, x11]) hd hn rfl (fun w h => by cases h; exact hc) k
theorem bz_ast12 {v : Nat} {x0 x1 x2 x3 x4 x5 x6 x7 x8 x9 x10 x11 : Option Value} {x : Option Value} {t : List (Option Value)} (hd : decode M.2.1 pc = .ok (.astore 12, 2)) (hn : 12 < M.2.2.2.1) (hc : bz_c2 x11 = false) (k : bz_V l ad K n M d r σ' (pc + 2) (x0 :: x1 :: x2 :: x3 :: x4 :: x5 :: x6 :: x7 :: x8 :: x9 :: x10 :: x11 :: some (.ref v) :: t) st σ) : bz_V l ad K n M d r σ' pc (x0 :: x1 :: x2 :: x3 :: x4 :: x5 :: x6 :: x7 :: x8 :: x9 :: x10 :: x11 :: x :: t) (.ref v :: st) σ := bz_astoreG (as := [x0, x1, x2, x3, x4, x5, x6, x7, x8, x9, x10, x11]) hd hn rfl (fun w h => by cases h; exact hc) k
theorem bz_lst12 {v : Int64} {x0 x1 x2 x3 x4 x5 x6 x7 x8 x9 x10 x11 : Option Value} {x y : Option Value} {t : List (Option Value)} (hd : decode M.2.1 pc = .ok (.lstore 12, 2)) (hn : 13 < M.2.2.2.1) (hc : bz_c2 x11 = false) (k : bz_V l ad K n M d r σ' (pc + 2) (x0 :: x1 :: x2 :: x3 :: x4 :: x5 :: x6 :: x7 :: x8 :: x9 :: x10 :: x11 :: some (.long v) :: none :: t) st σ) : bz_V l ad K n M d r σ' pc (x0 :: x1 :: x2 :: x3 :: x4 :: x5 :: x6 :: x7 :: x8 :: x9 :: x10 :: x11 :: x :: y :: t) (.long v :: st) σ := bz_lstoreG (as := [x0, x1, x2, x3, x4, x5, x6, x7, x8, x9, x10, x11]) hd hn rfl (fun w h => by cases h; exact hc) k
theorem bz_iinc12 {u v : Int32} {z : Int} {x0 x1 x2 x3 x4 x5 x6 x7 x8 x9 x10 x11 : Option Value} {t : List (Option Value)} (hd : decode M.2.1 pc = .ok (.iinc 12 z, 3)) (hv : u + Int32.ofInt z = v) (hn : 12 < M.2.2.2.1) (hc : bz_c2 x11 = false) (k : bz_V l ad K n M d r σ' (pc + 3) (x0 :: x1 :: x2 :: x3 :: x4 :: x5 :: x6 :: x7 :: x8 :: x9 :: x10 :: x11 :: some (.int v) :: t) st σ) : bz_V l ad K n M d r σ' pc (x0 :: x1 :: x2 :: x3 :: x4 :: x5 :: x6 :: x7 :: x8 :: x9 :: x10 :: x11 :: some (.int u) :: t) st σ := bz_iincG (as := [x0, x1, x2, x3, x4, x5, x6, x7, x8, x9, x10, x11]) hd hv hn rfl (fun w h => by cases h; exact hc) k
theorem bz_iinc12N {a : Nat} {x0 x1 x2 x3 x4 x5 x6 x7 x8 x9 x10 x11 : Option Value} {t : List (Option Value)} (hd : decode M.2.1 pc = .ok (.iinc 12 1, 3)) (hn : 12 < M.2.2.2.1) (hc : bz_c2 x11 = false) (k : bz_V l ad K n M d r σ' (pc + 3) (x0 :: x1 :: x2 :: x3 :: x4 :: x5 :: x6 :: x7 :: x8 :: x9 :: x10 :: x11 :: some (.int (nI (a + 1))) :: t) st σ) : bz_V l ad K n M d r σ' pc (x0 :: x1 :: x2 :: x3 :: x4 :: x5 :: x6 :: x7 :: x8 :: x9 :: x10 :: x11 :: some (.int (nI a)) :: t) st σ := bz_iinc12 hd (by rw [nI_succ]; rfl) hn hc k
theorem bz_idec12N {a : Nat} {x0 x1 x2 x3 x4 x5 x6 x7 x8 x9 x10 x11 : Option Value} {t : List (Option Value)} (hd : decode M.2.1 pc = .ok (.iinc 12 (-1), 3)) (hn : 12 < M.2.2.2.1) (hc : bz_c2 x11 = false) (k : bz_V l ad K n M d r σ' (pc + 3) (x0 :: x1 :: x2 :: x3 :: x4 :: x5 :: x6 :: x7 :: x8 :: x9 :: x10 :: x11 :: some (.int (nI a)) :: t) st σ) : bz_V l ad K n M d r σ' pc (x0 :: x1 :: x2 :: x3 :: x4 :: x5 :: x6 :: x7 :: x8 :: x9 :: x10 :: x11 :: some (.int (nI (a + 1))) :: t) st σ := bz_iinc12 hd (pk_m1 a) hn hc k
theorem bz_ist13 {v : Int32} {x0 x1 x2 x3 x4 x5 x6 x7 x8 x9 x10 x11 x12 : Option Value} {x : Option Value} {t : List (Option Value)} (hd : decode M.2.1 pc = .ok (.istore 13, 2)) (hn : 13 < M.2.2.2.1) (hc : bz_c2 x12 = false) (k : bz_V l ad K n M d r σ' (pc + 2) (x0 :: x1 :: x2 :: x3 :: x4 :: x5 :: x6 :: x7 :: x8 :: x9 :: x10 :: x11 :: x12 :: some (.int v) :: t) st σ) : bz_V l ad K n M d r σ' pc (x0 :: x1 :: x2 :: x3 :: x4 :: x5 :: x6 :: x7 :: x8 :: x9 :: x10 :: x11 :: x12 :: x :: t) (.int v :: st) σ := bz_istoreG (as := [x0, x1, x2, x3, x4, x5, x6, x7, x8, x9, x10, x11, x12]) hd hn rfl (fun w h => by cases h; exact hc) k
theorem bz_ast13 {v : Nat} {x0 x1 x2 x3 x4 x5 x6 x7 x8 x9 x10 x11 x12 : Option Value} {x : Option Value} {t : List (Option Value)} (hd : decode M.2.1 pc = .ok (.astore 13, 2)) (hn : 13 < M.2.2.2.1) (hc : bz_c2 x12 = false) (k : bz_V l ad K n M d r σ' (pc + 2) (x0 :: x1 :: x2 :: x3 :: x4 :: x5 :: x6 :: x7 :: x8 :: x9 :: x10 :: x11 :: x12 :: some (.ref v) :: t) st σ) : bz_V l ad K n M d r σ' pc (x0 :: x1 :: x2 :: x3 :: x4 :: x5 :: x6 :: x7 :: x8 :: x9 :: x10 :: x11 :: x12 :: x :: t) (.ref v :: st) σ := bz_astoreG (as := [x0, x1, x2, x3, x4, x5, x6, x7, x8, x9, x10, x11, x12]) hd hn rfl (fun w h => by cases h; exact hc) k
theorem bz_lst13 {v : Int64} {x0 x1 x2 x3 x4 x5 x6 x7 x8 x9 x10 x11 x12 : Option Value} {x y : Option Value} {t : List (Option Value)} (hd : decode M.2.1 pc = .ok (.lstore 13, 2)) (hn : 14 < M.2.2.2.1) (hc : bz_c2 x12 = false) (k : bz_V l ad K n M d r σ' (pc + 2) (x0 :: x1 :: x2 :: x3 :: x4 :: x5 :: x6 :: x7 :: x8 :: x9 :: x10 :: x11 :: x12 :: some (.long v) :: none :: t) st σ) : bz_V l ad K n M d r σ' pc (x0 :: x1 :: x2 :: x3 :: x4 :: x5 :: x6 :: x7 :: x8 :: x9 :: x10 :: x11 :: x12 :: x :: y :: t) (.long v :: st) σ := bz_lstoreG (as := [x0, x1, x2, x3, x4, x5, x6, x7, x8, x9, x10, x11, x12]) hd hn rfl (fun w h => by cases h; exact hc) k
theorem bz_iinc13 {u v : Int32} {z : Int} {x0 x1 x2 x3 x4 x5 x6 x7 x8 x9 x10 x11 x12 : Option Value} {t : List (Option Value)} (hd : decode M.2.1 pc = .ok (.iinc 13 z, 3)) (hv : u + Int32.ofInt z = v) (hn : 13 < M.2.2.2.1) (hc : bz_c2 x12 = false) (k : bz_V l ad K n M d r σ' (pc + 3) (x0 :: x1 :: x2 :: x3 :: x4 :: x5 :: x6 :: x7 :: x8 :: x9 :: x10 :: x11 :: x12 :: some (.int v) :: t) st σ) : bz_V l ad K n M d r σ' pc (x0 :: x1 :: x2 :: x3 :: x4 :: x5 :: x6 :: x7 :: x8 :: x9 :: x10 :: x11 :: x12 :: some (.int u) :: t) st σ := bz_iincG (as := [x0, x1, x2, x3, x4, x5, x6, x7, x8, x9, x10, x11, x12]) hd hv hn rfl (fun w h => by cases h; exact hc) k
theorem bz_iinc13N {a : Nat} {x0 x1 x2 x3 x4 x5 x6 x7 x8 x9 x10 x11 x12 : Option Value} {t : List (Option Value)} (hd : decode M.2.1 pc = .ok (.iinc 13 1, 3)) (hn : 13 < M.2.2.2.1) (hc : bz_c2 x12 = false) (k : bz_V l ad K n M d r σ' (pc + 3) (x0 :: x1 :: x2 :: x3 :: x4 :: x5 :: x6 :: x7 :: x8 :: x9 :: x10 :: x11 :: x12 :: some (.int (nI (a + 1))) :: t) st σ) : bz_V l ad K n M d r σ' pc (x0 :: x1 :: x2 :: x3 :: x4 :: x5 :: x6 :: x7 :: x8 :: x9 :: x10 :: x11 :: x12 :: some (.int (nI a)) :: t) st σ := bz_iinc13 hd (by rw [nI_succ]; rfl) hn hc k
theorem bz_idec13N {a : Nat} {x0 x1 x2 x3 x4 x5 x6 x7 x8 x9 x10 x11 x12 : Option Value} {t : List (Option Value)} (hd : decode M.2.1 pc = .ok (.iinc 13 (-1), 3)) (hn : 13 < M.2.2.2.1) (hc : bz_c2 x12 = false) (k : bz_V l ad K n M d r σ' (pc + 3) (x0 :: x1 :: x2 :: x3 :: x4 :: x5 :: x6 :: x7 :: x8 :: x9 :: x10 :: x11 :: x12 :: some (.int (nI a)) :: t) st σ) : bz_V l ad K n M d r σ' pc (x0 :: x1 :: x2 :: x3 :: x4 :: x5 :: x6 :: x7 :: x8 :: x9 :: x10 :: x11 :: x12 :: some (.int (nI (a + 1))) :: t) st σ := bz_iinc13 hd (pk_m1 a) hn hc k
theorem bz_ist14 {v : Int32} {x0 x1 x2 x3 x4 x5 x6 x7 x8 x9 x10 x11 x12 x13 : Option Value} {x : Option Value} {t : List (Option Value)} (hd : decode M.2.1 pc = .ok (.istore 14, 2)) (hn : 14 < M.2.2.2.1) (hc : bz_c2 x13 = false) (k : bz_V l ad K n M d r σ' (pc + 2) (x0 :: x1 :: x2 :: x3 :: x4 :: x5 :: x6 :: x7 :: x8 :: x9 :: x10 :: x11 :: x12 :: x13 :: some (.int v) :: t) st σ) : bz_V l ad K n M d r σ' pc (x0 :: x1 :: x2 :: x3 :: x4 :: x5 :: x6 :: x7 :: x8 :: x9 :: x10 :: x11 :: x12 :: x13 :: x :: t) (.int v :: st) σ := bz_istoreG (as := [x0, x1, x2, x3, x4, x5, x6, x7, x8, x9, x10, x11, x12, x13]) hd hn rfl (fun w h => by cases h; exact hc) k
theorem bz_ast14 {v : Nat} {x0 x1 x2 x3 x4 x5 x6 x7 x8 x9 x10 x11 x12 x13 : Option Value} {x : Option Value} {t : List (Option Value)} (hd : decode M.2.1 pc = .ok (.astore 14, 2)) (hn : 14 < M.2.2.2.1) (hc : bz_c2 x13 = false) (k : bz_V l ad K n M d r σ' (pc + 2) (x0 :: x1 :: x2 :: x3 :: x4 :: x5 :: x6 :: x7 :: x8 :: x9 :: x10 :: x11 :: x12 :: x13 :: some (.ref v) :: t) st σ) : bz_V l ad K n M d r σ' pc (x0 :: x1 :: x2 :: x3 :: x4 :: x5 :: x6 :: x7 :: x8 :: x9 :: x10 :: x11 :: x12 :: x13 :: x :: t) (.ref v :: st) σ := bz_astoreG (as := [x0, x1, x2, x3, x4, x5, x6, x7, x8, x9, x10, x11, x12, x13]) hd hn rfl (fun w h => by cases h; exact hc) k
theorem bz_lst14 {v : Int64} {x0 x1 x2 x3 x4 x5 x6 x7 x8 x9 x10 x11 x12 x13 : Option Value} {x y : Option Value} {t : List (Option Value)} (hd : decode M.2.1 pc = .ok (.lstore 14, 2)) (hn : 15 < M.2.2.2.1) (hc : bz_c2 x13 = false) (k : bz_V l ad K n M d r σ' (pc + 2) (x0 :: x1 :: x2 :: x3 :: x4 :: x5 :: x6 :: x7 :: x8 :: x9 :: x10 :: x11 :: x12 :: x13 :: some (.long v) :: none :: t) st σ) : bz_V l ad K n M d r σ' pc (x0 :: x1 :: x2 :: x3 :: x4 :: x5 :: x6 :: x7 :: x8 :: x9 :: x10 :: x11 :: x12 :: x13 :: x :: y :: t) (.long v :: st) σ := bz_lstoreG (as := [x0, x1, x2, x3, x4, x5, x6, x7, x8, x9, x10, x11, x12, x13]) hd hn rfl (fun w h => by cases h; exact hc) k
theorem bz_iinc14 {u v : Int32} {z : Int} {x0 x1 x2 x3 x4 x5 x6 x7 x8 x9 x10 x11 x12 x13 : Option Value} {t : List (Option Value)} (hd : decode M.2.1 pc = .ok (.iinc 14 z, 3)) (hv : u + Int32.ofInt z = v) (hn : 14 < M.2.2.2.1) (hc : bz_c2 x13 = false) (k : bz_V l ad K n M d r σ' (pc + 3) (x0 :: x1 :: x2 :: x3 :: x4 :: x5 :: x6 :: x7 :: x8 :: x9 :: x10 :: x11 :: x12 :: x13 :: some (.int v) :: t) st σ) : bz_V l ad K n M d r σ' pc (x0 :: x1 :: x2 :: x3 :: x4 :: x5 :: x6 :: x7 :: x8 :: x9 :: x10 :: x11 :: x12 :: x13 :: some (.int u) :: t) st σ := bz_iincG (as := [x0, x1, x2, x3, x4, x5, x6, x7, x8, x9, x10, x11, x12, x13]) hd hv hn rfl (fun w h => by cases h; exact hc) k
theorem bz_iinc14N {a : Nat} {x0 x1 x2 x3 x4 x5 x6 x7 x8 x9 x10 x11 x12 x13 : Option Value} {t : List (Option Value)} (hd : decode M.2.1 pc = .ok (.iinc 14 1, 3)) (hn : 14 < M.2.2.2.1) (hc : bz_c2 x13 = false) (k : bz_V l ad K n M d r σ' (pc + 3) (x0 :: x1 :: x2 :: x3 :: x4 :: x5 :: x6 :: x7 :: x8 :: x9 :: x10 :: x11 :: x12 :: x13 :: some (.int (nI (a + 1))) :: t) st σ) : bz_V l ad K n M d r σ' pc (x0 :: x1 :: x2 :: x3 :: x4 :: x5 :: x6 :: x7 :: x8 :: x9 :: x10 :: x11 :: x12 :: x13 :: some (.int (nI a)) :: t) st σ := bz_iinc14 hd (by rw [nI_succ]; rfl) hn hc k
theorem bz_idec14N {a : Nat} {x0 x1 x2 x3 x4 x5 x6 x7 x8 x9 x10 x11 x12 x13 : Option Value} {t : List (Option Value)} (hd : decode M.2.1 pc = .ok (.iinc 14 (-1), 3)) (hn : 14 < M.2.2.2.1) (hc : bz_c2 x13 = false) (k : bz_V l ad K n M d r σ' (pc + 3) (x0 :: x1 :: x2 :: x3 :: x4 :: x5 :: x6 :: x7 :: x8 :: x9 :: x10 :: x11 :: x12 :: x13 :: some (.int (nI a)) :: t) st σ) : bz_V l ad K n M d r σ' pc (x0 :: x1 :: x2 :: x3 :: x4 :: x5 :: x6 :: x7 :: x8 :: x9 :: x10 :: x11 :: x12 :: x13 :: some (.int (nI (a + 1))) :: t) st σ := bz_iinc14 hd (pk_m1 a) hn hc k
end BZ1
end
section
theorem bz_sh_lt (k : Nat) : (bz_sh k).2.1 < 2 ^ 31 := by
  have h : ∀ q ∈ bz_shl, q.2.1 < 5000 := by decide +kernel
  unfold bz_sh
  rw [List.getD_eq_getElem?_getD]
  cases hk : bz_shl[k]? with
  | none => show (0 : Nat) < _; decide
  | some q =>
    have := h q (List.mem_of_getElem? hk)
    show q.2.1 < _
    omega
theorem bz_sh_len {k a n b : Nat} {fl : List (Option Nat)} (h : bz_sh k = (a, n, b, fl)) : n < 2 ^ 31 := by
  have := bz_sh_lt k
  rw [h] at this
  exact this
/-- the link of a field: which class of vwCl, which of its fields -/
def bz_fl (own : String) (idx ci j : Nat) : Prop := ∃ (C : String) (T : u_T) (N : Nat), vwCl[ci]? = some (C, T, N) ∧ (∀ w ∈ u_ws C T N, w ∈ bz_tbl) ∧ j < N ∧ (Cond.fieldLink own idx (T j).1 (T j).2.1 (T j).2.2.1 ∈ bz_tbl ∨ ∃ host, Cond.fieldLinkNest own idx (T j).1 (T j).2.1 (T j).2.2.1 host ∈ bz_nst)
section BZ2
variable {l : Launch} {ad : Nat → Nat} {K : bz_K} {n : Nat} {M : bz_M} {d : Nat} {r : Option Value} {σ σ' : bz_S} {pc : Nat} {ls : List (Option Value)} {st : List Value}
theorem bz_getfV {k ci b j idx : Nat} {fl : List (Option Nat)} {o : Option Nat} (hf : bz_fl M.2.2.1 idx ci j) (hd : decode M.2.1 pc = .ok (.getfield idx, 3)) (hs : bz_sh k = (4, ci, b, fl)) (hj : fl[j]? = some o) (hk : k < n) (kk : bz_V l ad K n M d r σ' (pc + 3) ls (bz_fv ad σ o :: st) σ) : bz_V l ad K n M d r σ' pc ls (.ref (ad k) :: st) σ := by
  intro p e R s m args below meth c A Q mc ms C hR hQ H locs LS hP hS hl
  obtain ⟨Cn, T, N, h1, h2, h3, h4⟩ := hf
  have he : (bz_ws ad K σ n)[k]? = some (ad k, .inr (ci, fl.map (bz_fv ad σ))) := by rw [bz_ws_at hk, bz_ent4 hs]
  have hv : (fl.map (bz_fv ad σ))[j]? = some (bz_fv ad σ o) := by rw [List.getElem?_map, hj]; rfl
  rcases h4 with h4 | ⟨host, h4⟩
  · exact va_get C.1 C.2.1 C.2.2.2.2.2.1 h2 C.2.2.2.2.1 C.2.2.2.2.2.2.1 hP k he h1 j h3 (C.2.2.2.2.2.1 _ h4) (fun _ q => q) hv hd (kk p e R s m args below meth c A Q mc ms C hR hQ H locs LS hP hS hl)
  · exact va_getN C.1 C.2.1 C.2.2.2.2.2.1 h2 C.2.2.2.2.1 C.2.2.2.2.2.2.1 hP k he h1 j h3 (va_Nw.use (bz_nst_on h4) (C.2.2.2.2.2.2.2.1 _ h4)) (fun _ q => q) hv hd (kk p e R s m args below meth c A Q mc ms C hR hQ H locs LS hP hS hl)
theorem bz_getf {k ci b j idx q : Nat} {fl : List (Option Nat)} (hf : bz_fl M.2.2.1 idx ci j) (hd : decode M.2.1 pc = .ok (.getfield idx, 3)) (hs : bz_sh k = (4, ci, b, fl)) (hj : fl[j]? = some (some q)) (hk : k < n) (kk : bz_V l ad K n M d r σ' (pc + 3) ls (.ref (ad q) :: st) σ) : bz_V l ad K n M d r σ' pc ls (.ref (ad k) :: st) σ := bz_getfV hf hd hs hj hk kk
theorem bz_getB {k ci b j idx : Nat} {fl : List (Option Nat)} (hf : bz_fl M.2.2.1 idx ci j) (hd : decode M.2.1 pc = .ok (.getfield idx, 3)) (hs : bz_sh k = (4, ci, b, fl)) (hj : fl[j]? = some none) (hk : k < n) (kk : bz_V l ad K n M d r σ' (pc + 3) ls (.int σ.2.2 :: st) σ) : bz_V l ad K n M d r σ' pc ls (.ref (ad k) :: st) σ := bz_getfV hf hd hs hj hk kk
theorem bz_iaload {k len b i : Nat} {fl : List (Option Nat)} (hd : decode M.2.1 pc = .ok (.iaload, 1)) (hs : bz_sh k = (0, len, b, fl)) (hk : k < n) (hi : i < len) (kk : bz_V l ad K n M d r σ' (pc + 1) ls (.int (σ.2.1 k i) :: st) σ) : bz_V l ad K n M d r σ' pc ls (.int (nI i) :: .ref (ad k) :: st) σ := by
  intro p e R s m args below meth c A Q mc ms C hR hQ H locs LS hP hS hl
  have hlen := bz_sh_len hs
  refine va_iald C.1 C.2.1 C.2.2.2.2.2.2.1 hP k 0 (by rw [bz_ws_at hk, bz_ent0 hs]) rfl (vp_in_nI hi hlen) hd ?_
  rw [nI_clamp (by omega)]
  exact kk p e R s m args below meth c A Q mc ms C hR hQ H locs LS hP hS hl
theorem bz_laload {k len b i : Nat} {fl : List (Option Nat)} (hd : decode M.2.1 pc = .ok (.laload, 1)) (hs : bz_sh k = (1, len, b, fl)) (hk : k < n) (hi : i < len) (kk : bz_V l ad K n M d r σ' (pc + 1) ls (.long (σ.1 k i) :: st) σ) : bz_V l ad K n M d r σ' pc ls (.int (nI i) :: .ref (ad k) :: st) σ := by
  intro p e R s m args below meth c A Q mc ms C hR hQ H locs LS hP hS hl
  have hlen := bz_sh_len hs
  refine va_lald C.1 C.2.1 C.2.2.2.2.2.2.1 hP k 1 (by rw [bz_ws_at hk, bz_ent1 hs]) rfl (vp_in_nI hi hlen) hd ?_
  rw [nI_clamp (by omega)]
  exact kk p e R s m args below meth c A Q mc ms C hR hQ H locs LS hP hS hl
theorem bz_baload {k len b i : Nat} {fl : List (Option Nat)} (hd : decode M.2.1 pc = .ok (.baload, 1)) (hs : bz_sh k = (2, len, b, fl)) (hk : k < n) (hi : i < len) (kk : bz_V l ad K n M d r σ' (pc + 1) ls (.int (σ.2.1 k i) :: st) σ) : bz_V l ad K n M d r σ' pc ls (.int (nI i) :: .ref (ad k) :: st) σ := by
  intro p e R s m args below meth c A Q mc ms C hR hQ H locs LS hP hS hl
  have hlen := bz_sh_len hs
  refine va_zald C.1 C.2.1 C.2.2.2.2.2.2.1 hP k 2 (by rw [bz_ws_at hk, bz_ent2 hs]) rfl (vp_in_nI hi hlen) hd ?_
  rw [nI_clamp (by omega)]
  exact kk p e R s m args below meth c A Q mc ms C hR hQ H locs LS hP hS hl
theorem bz_aaload {k len b i : Nat} {fl : List (Option Nat)} (hd : decode M.2.1 pc = .ok (.aaload, 1)) (hs : bz_sh k = (3, len, b, fl)) (hk : k < n) (hi : i < len) (kk : bz_V l ad K n M d r σ' (pc + 1) ls (.ref (ad (b + i)) :: st) σ) : bz_V l ad K n M d r σ' pc ls (.int (nI i) :: .ref (ad k) :: st) σ := by
  intro p e R s m args below meth c A Q mc ms C hR hQ H locs LS hP hS hl
  have hlen := bz_sh_len hs
  have hK := C.2.2.2.2.2.2.1
  have ha : (bz_ws ad K σ n)[k]? = some (ad k, .inl (K.2.2.2.2.1, len, .inr (.inr (.inr (.inr (fun i => if i < len then some (ad (b + i)) else none)))))) := by rw [bz_ws_at hk, bz_ent3 hs]
  have hin := vp_in_nI hi hlen
  refine W.aald (v := .ref (ad (b + i))) (ty := .array .long) C.1 C.2.1 (hP k _ ha) ((hK.2 3 _ rfl).1 len (fun j => va_rf (if j < len then some (ad (b + j)) else none))) rfl (fun q => by cases q) (by show ¬ (nI i < 0 ∨ (arrV _ _ _).slots.size ≤ _); rw [arrV_size]; exact hin) (by show (arrV _ _ _).slots[_]? = _; rw [nI_clamp (by omega), arrV_read _ _ hi]; simp [hi, va_rf]) rfl rfl hd ?_
  exact kk p e R s m args below meth c A Q mc ms C hR hQ H locs LS hP hS hl
theorem bz_alen {k len b : Nat} {fl : List (Option Nat)} (hd : decode M.2.1 pc = .ok (.arraylength, 1)) (hs : bz_sh k = (1, len, b, fl)) (hk : k < n) (kk : bz_V l ad K n M d r σ' (pc + 1) ls (.int (nI len) :: st) σ) : bz_V l ad K n M d r σ' pc ls (.ref (ad k) :: st) σ := by
  intro p e R s m args below meth c A Q mc ms C hR hQ H locs LS hP hS hl
  exact va_alen (x := (len, .inr (.inl (σ.1 k)))) C.1 C.2.1 C.2.2.2.2.2.2.1 hP k 1 (by rw [bz_ws_at hk, bz_ent1 hs]) rfl rfl hd (kk p e R s m args below meth c A Q mc ms C hR hQ H locs LS hP hS hl)
theorem bz_lastore {k len b i : Nat} {x : Int64} {fl : List (Option Nat)} (hd : decode M.2.1 pc = .ok (.lastore, 1)) (hs : bz_sh k = (1, len, b, fl)) (hk : k < n) (hi : i < len) (kk : bz_V l ad K n M d r σ' (pc + 1) ls st (bz_upJ σ k i x)) : bz_V l ad K n M d r σ' pc ls (.long x :: .int (nI i) :: .ref (ad k) :: st) σ := by
  intro p e R s m args below meth c A Q mc ms C hR hQ H locs LS hP hS hl
  have hlen := bz_sh_len hs
  refine va_last C.1 C.2.1 C.2.2.2.2.2.2.1 hP (bz_D C.2.2.2.2.2.2) hS k 1 (by rw [bz_ws_at hk, bz_ent1 hs]) rfl (vp_in_nI hi hlen) hd (fun H1 locs1 hP1 _ hS1 => ?_)
  rw [nI_clamp (by omega), bz_set_eq (ad := ad) (K := K) (σ := σ) (n := n) (k := k) (σ1 := bz_upJ σ k i x) (by rw [bz_ent1 hs]; simp [bz_upJ]) (fun j hj => bz_ent_congr (by simp [bz_upJ, hj]) rfl rfl)] at hP1
  exact kk p e R s m args below meth c A Q mc ms C hR hQ H1 locs1 LS hP1 hS1 hl
theorem bz_iastore {k len b i : Nat} {x : Int32} {fl : List (Option Nat)} (hd : decode M.2.1 pc = .ok (.iastore, 1)) (hs : bz_sh k = (0, len, b, fl)) (hk : k < n) (hi : i < len) (kk : bz_V l ad K n M d r σ' (pc + 1) ls st (bz_upI σ k i x)) : bz_V l ad K n M d r σ' pc ls (.int x :: .int (nI i) :: .ref (ad k) :: st) σ := by
  intro p e R s m args below meth c A Q mc ms C hR hQ H locs LS hP hS hl
  have hlen := bz_sh_len hs
  refine va_iast C.1 C.2.1 C.2.2.2.2.2.2.1 hP (bz_D C.2.2.2.2.2.2) hS k 0 (by rw [bz_ws_at hk, bz_ent0 hs]) rfl (vp_in_nI hi hlen) hd (fun H1 locs1 hP1 _ hS1 => ?_)
  rw [nI_clamp (by omega), bz_set_eq (ad := ad) (K := K) (σ := σ) (n := n) (k := k) (σ1 := bz_upI σ k i x) (by rw [bz_ent0 hs]; simp [bz_upI]) (fun j hj => bz_ent_congr rfl (by simp [bz_upI, hj]) rfl)] at hP1
  exact kk p e R s m args below meth c A Q mc ms C hR hQ H1 locs1 LS hP1 hS1 hl
theorem bz_bastore {k len b i : Nat} {x : Int32} {fl : List (Option Nat)} (hd : decode M.2.1 pc = .ok (.bastore, 1)) (hs : bz_sh k = (2, len, b, fl)) (hk : k < n) (hi : i < len) (hx : vp_nar .boolean x = x) (kk : bz_V l ad K n M d r σ' (pc + 1) ls st (bz_upI σ k i x)) : bz_V l ad K n M d r σ' pc ls (.int x :: .int (nI i) :: .ref (ad k) :: st) σ := by
  intro p e R s m args below meth c A Q mc ms C hR hQ H locs LS hP hS hl
  have hlen := bz_sh_len hs
  refine va_zast C.1 C.2.1 C.2.2.2.2.2.2.1 hP (bz_D C.2.2.2.2.2.2) hS k 2 (by rw [bz_ws_at hk, bz_ent2 hs]) rfl (vp_in_nI hi hlen) hd (fun H1 locs1 hP1 _ hS1 => ?_)
  rw [hx, nI_clamp (by omega), bz_set_eq (ad := ad) (K := K) (σ := σ) (n := n) (k := k) (σ1 := bz_upI σ k i x) (by rw [bz_ent2 hs]; simp [bz_upI]) (fun j hj => bz_ent_congr rfl (by simp [bz_upI, hj]) rfl)] at hP1
  exact kk p e R s m args below meth c A Q mc ms C hR hQ H1 locs1 LS hP1 hS1 hl
theorem bz_getST {idx : Nat} (hf : Cond.fieldLink M.2.2.1 idx RX1 "STARTS" "[I" ∈ bz_tbl) (hd : decode M.2.1 pc = .ok (.getstatic idx, 3)) (kk : bz_V l ad K n M d r σ' (pc + 3) ls (.ref K.2.2.2.2.2.1 :: st) σ) : bz_V l ad K n M d r σ' pc ls st σ := by
  intro p e R s m args below meth c A Q mc ms C hR hQ H locs LS hP hS hl
  exact va_gets C.1 C.2.1 C.2.2.2.2.2.2.2.2.2.2.1 hS C.2.2.2.2.1 (C.2.2.2.2.2.1 _ hf) (fun _ q => q) hd (kk p e R s m args below meth c A Q mc ms C hR hQ H locs LS hP hS hl)
theorem bz_getPA {idx : Nat} (hf : Cond.fieldLink M.2.2.1 idx RX1 "PARTS" "[I" ∈ bz_tbl) (hd : decode M.2.1 pc = .ok (.getstatic idx, 3)) (kk : bz_V l ad K n M d r σ' (pc + 3) ls (.ref K.2.2.2.2.2.2 :: st) σ) : bz_V l ad K n M d r σ' pc ls st σ := by
  intro p e R s m args below meth c A Q mc ms C hR hQ H locs LS hP hS hl
  exact va_gets C.1 C.2.1 C.2.2.2.2.2.2.2.2.2.2.2.2.1 hS C.2.2.2.2.1 (C.2.2.2.2.2.1 _ hf) (fun _ q => q) hd (kk p e R s m args below meth c A Q mc ms C hR hQ H locs LS hP hS hl)
theorem bz_ldST {i : Nat} (hd : decode M.2.1 pc = .ok (.iaload, 1)) (hi : i < 8) (kk : bz_V l ad K n M d r σ' (pc + 1) ls (.int (bz_STARTS i) :: st) σ) : bz_V l ad K n M d r σ' pc ls (.int (nI i) :: .ref K.2.2.2.2.2.1 :: st) σ := by
  intro p e R s m args below meth c A Q mc ms C hR hQ H locs LS hP hS hl
  exact va_ti C.1 C.2.1 C.2.2.2.2.2.2.2.2.2.2.2.1 hS (vp_in_nI hi (by decide)) (by rw [nI_clamp (by omega)]) hd (kk p e R s m args below meth c A Q mc ms C hR hQ H locs LS hP hS hl)
theorem bz_ldPA {i : Nat} (hd : decode M.2.1 pc = .ok (.iaload, 1)) (hi : i < 180) (kk : bz_V l ad K n M d r σ' (pc + 1) ls (.int (bz_PARTS i) :: st) σ) : bz_V l ad K n M d r σ' pc ls (.int (nI i) :: .ref K.2.2.2.2.2.2 :: st) σ := by
  intro p e R s m args below meth c A Q mc ms C hR hQ H locs LS hP hS hl
  exact va_ti C.1 C.2.1 C.2.2.2.2.2.2.2.2.2.2.2.2.2 hS (vp_in_nI hi (by decide)) (by rw [nI_clamp (by omega)]) hd (kk p e R s m args below meth c A Q mc ms C hR hQ H locs LS hP hS hl)
/-- System.arraycopy(a, 0, b, 0, 30) of two rows of 30 longs -/
theorem bz_copy {k0 k1 b0 b1 idx : Nat} {f0 f1 : List (Option Nat)} (hf : Cond.methodLink M.2.2.1 idx arraycopyName ∈ bz_tbl) (h1 : Cond.native arraycopyName ∈ bz_tbl) (h2 : Cond.static arraycopyName ∈ bz_tbl) (h3 : Cond.initialized "java/lang/System" ∈ bz_tbl) (hdd : 2 ≤ d) (hd : decode M.2.1 pc = .ok (.invokestatic idx, 3)) (hs0 : bz_sh k0 = (1, 30, b0, f0)) (hs1 : bz_sh k1 = (1, 30, b1, f1)) (hk0 : k0 < n) (hk1 : k1 < n) (hrest : (st.map fun v => v.category).sum ≤ 8)
    (kk : bz_V l ad K n M d r σ' (pc + 3) ls st (bz_setJ σ k1 (fun j => if j < 30 then σ.1 k0 j else σ.1 k1 j))) : bz_V l ad K n M d r σ' pc ls (.int (nI 30) :: .int (nI 0) :: .ref (ad k1) :: .int (nI 0) :: .ref (ad k0) :: st) σ := by
  intro p e R s m args below meth c A Q mc ms C hR hQ H locs LS hP hS hl
  have hw : nativeFrameWords "java/lang/System" "arraycopy" 5 + 11 ≤ 60 := by decide +kernel
  refine va_copyl C.1 C.2.1 (C.2.2.2.1.trans hl.1.symm) C.2.2.2.2.1 (C.2.2.2.2.2.1 _ hf) (C.2.2.2.2.2.1 _ h1) (C.2.2.2.2.2.1 _ h2) (C.2.2.2.2.2.1 _ h3) C.2.2.2.2.2.2.1 hP (bz_D C.2.2.2.2.2.2) hS k0 k1 1 1 (by rw [bz_ws_at hk0, bz_ent1 hs0]) (by rw [bz_ws_at hk1, bz_ent1 hs1]) (ty := .long) rfl rfl rfl (by decide) (by decide) (by decide) (by decide) (by decide) (fun i _ => rfl) (by omega) (by omega) hd (fun H1 locs1 hP1 _ hS1 => ?_)
  have ee : va_cpy (σ.1 k0) (σ.1 k1) (nI 0).toNatClampNeg (nI 0).toNatClampNeg (nI 30).toNatClampNeg = fun j => if j < 30 then σ.1 k0 j else σ.1 k1 j := by
    funext j
    rw [nI_clamp (by decide), nI_clamp (by decide)]
    simp [va_cpy]
  rw [ee, bz_set_eq (ad := ad) (K := K) (σ := σ) (n := n) (k := k1) (σ1 := bz_setJ σ k1 (fun j => if j < 30 then σ.1 k0 j else σ.1 k1 j)) (by rw [bz_ent1 hs1]; simp [bz_setJ]) (fun j hj => bz_ent_congr (by simp [bz_setJ, hj]) rfl rfl)] at hP1
  exact kk p e R s m args below meth c A Q mc ms C hR hQ H1 locs1 LS hP1 hS1 hl
theorem bz_mmin {x y : Int32} {idx : Nat} (hf : Cond.methodLink M.2.2.1 idx Lib.Math.min.name ∈ bz_tbl) (h1 : Cond.static Lib.Math.min.name ∈ bz_tbl) (h2 : Cond.initialized "java/lang/Math" ∈ bz_tbl) (h3 : Cond.code Lib.Math.min.name Lib.Math.min.code 2 (some .int) ∈ bz_tbl) (hdd : 1 ≤ d) (hd : decode M.2.1 pc = .ok (.invokestatic idx, 3)) (hrest : (st.map fun v => v.category).sum ≤ 8) (kk : bz_V l ad K n M d r σ' (pc + 3) ls (.int (if y < x then y else x) :: st) σ) : bz_V l ad K n M d r σ' pc ls (.int y :: .int x :: st) σ := by
  intro p e R s m args below meth c A Q mc ms C hR hQ H locs LS hP hS hl
  exact va_mmin C.1 C.2.1 (C.2.2.2.1.trans hl.1.symm) C.2.2.2.2.1 (C.2.2.2.2.2.1 _ hf) (C.2.2.2.2.2.1 _ h1) (C.2.2.2.2.2.1 _ h2) (C.2.2.2.2.2.1 _ h3) (by omega) (by omega) hR.2.2.1 hR.2.2.2 hd (kk p e R s m args below meth c A Q mc ms C hR hQ H locs LS hP hS hl)
theorem bz_mabs {x : Int64} {idx : Nat} (hf : Cond.methodLink M.2.2.1 idx Lib.MathLoose.abs_long.x ∈ bz_tbl) (h1 : Cond.static Lib.MathLoose.abs_long.x ∈ bz_tbl) (h2 : Cond.initialized "java/lang/Math" ∈ bz_tbl) (h3 : Cond.code Lib.MathLoose.abs_long.x Lib.MathLoose.abs_long.code 2 (some .long) ∈ bz_tbl) (hdd : 1 ≤ d) (hd : decode M.2.1 pc = .ok (.invokestatic idx, 3)) (hrest : (st.map fun v => v.category).sum ≤ 8) (kk : bz_V l ad K n M d r σ' (pc + 3) ls (.long (if 0 < x then x else -x) :: st) σ) : bz_V l ad K n M d r σ' pc ls (.long x :: st) σ := by
  intro p e R s m args below meth c A Q mc ms C hR hQ H locs LS hP hS hl
  exact va_mabs_long C.1 C.2.1 (C.2.2.2.1.trans hl.1.symm) C.2.2.2.2.1 (C.2.2.2.2.2.1 _ hf) (C.2.2.2.2.2.1 _ h1) (C.2.2.2.2.2.1 _ h2) (C.2.2.2.2.2.1 _ h3) (by omega) (by omega) hR.2.2.1 hR.2.2.2 hd (kk p e R s m args below meth c A Q mc ms C hR hQ H locs LS hP hS hl)
theorem bz_ldc2 {x : Int64} {idx : Nat} (hf : Cond.constantLong M.2.2.1 idx x ∈ bz_tbl) (hd : decode M.2.1 pc = .ok (.ldc2_w idx, 3)) (kk : bz_V l ad K n M d r σ' (pc + 3) ls (.long x :: st) σ) : bz_V l ad K n M d r σ' pc ls st σ := by
  intro p e R s m args below meth c A Q mc ms C hR hQ H locs LS hP hS hl
  exact lv_ldc2 C.1 C.2.1 C.2.2.2.2.1 (C.2.2.2.2.2.1 _ hf) hd (kk p e R s m args below meth c A Q mc ms C hR hQ H locs LS hP hS hl)
theorem bz_ldc {x : Int32} {idx : Nat} (hf : Cond.constant M.2.2.1 idx x ∈ bz_tbl) (hd : decode M.2.1 pc = .ok (.ldc idx, 2)) (kk : bz_V l ad K n M d r σ' (pc + 2) ls (.int x :: st) σ) : bz_V l ad K n M d r σ' pc ls st σ := by
  intro p e R s m args below meth c A Q mc ms C hR hQ H locs LS hP hS hl
  exact lv_ldc C.1 C.2.1 C.2.2.2.2.1 (C.2.2.2.2.2.1 _ hf) hd (kk p e R s m args below meth c A Q mc ms C hR hQ H locs LS hP hS hl)
theorem bz_tblIn {dflt lo hi off : Int} {offs : Array Int} {len tgt : Nat} {x : Int32} (hd : decode M.2.1 pc = .ok (.tableswitch dflt lo hi offs, len)) (h1 : ¬ x.toInt < lo) (h2 : ¬ hi < x.toInt) (ho : offs[(x.toInt - lo).toNat]? = some off) (ht : (pc : Int) + off = (tgt : Int)) (kk : bz_V l ad K n M d r σ' tgt ls st σ) : bz_V l ad K n M d r σ' pc ls (.int x :: st) σ := by
  intro p e R s m args below meth c A Q mc ms C hR hQ H locs LS hP hS hl
  exact lv_tableIn C.1 C.2.1 hd h1 h2 ho ht (kk p e R s m args below meth c A Q mc ms C hR hQ H locs LS hP hS hl)
theorem bz_tblOut {dflt lo hi : Int} {offs : Array Int} {len tgt : Nat} {x : Int32} (hd : decode M.2.1 pc = .ok (.tableswitch dflt lo hi offs, len)) (h : x.toInt < lo ∨ hi < x.toInt) (ht : (pc : Int) + dflt = (tgt : Int)) (kk : bz_V l ad K n M d r σ' tgt ls st σ) : bz_V l ad K n M d r σ' pc ls (.int x :: st) σ := by
  intro p e R s m args below meth c A Q mc ms C hR hQ H locs LS hP hS hl
  exact lv_tableOut C.1 C.2.1 hd h ht (kk p e R s m args below meth c A Q mc ms C hR hQ H locs LS hP hS hl)
/-- returns -/
theorem bz_iret {x y : Int32} (hd : decode M.2.1 pc = .ok (.ireturn, 1)) (hr : M.2.2.2.2 = some .int) (hx : x = y) (hσ : σ = σ') : bz_V l ad K n M d (some (.int y)) σ' pc ls [.int x] σ := by
  intro p e R s m args below meth c A Q mc ms C hR hQ H locs LS hP hS hl
  subst hx; subst hσ
  exact hQ pc H locs LS ⟨hd, Or.inl hr⟩ hP hS hl.1
theorem bz_zret {x y : Int32} (hd : decode M.2.1 pc = .ok (.ireturn, 1)) (hr : M.2.2.2.2 = some .boolean) (hn : narrow .boolean (.int x) = .int x) (hx : x = y) (hσ : σ = σ') : bz_V l ad K n M d (some (.int y)) σ' pc ls [.int x] σ := by
  intro p e R s m args below meth c A Q mc ms C hR hQ H locs LS hP hS hl
  subst hx; subst hσ
  exact hQ pc H locs LS ⟨hd, Or.inr ⟨hr, hn⟩⟩ hP hS hl.1
theorem bz_lret {x y : Int64} (hd : decode M.2.1 pc = .ok (.lreturn, 1)) (hr : M.2.2.2.2 = some .long) (hx : x = y) (hσ : σ = σ') : bz_V l ad K n M d (some (.long y)) σ' pc ls [.long x] σ := by
  intro p e R s m args below meth c A Q mc ms C hR hQ H locs LS hP hS hl
  subst hx; subst hσ
  exact hQ pc H locs LS ⟨hd, hr⟩ hP hS hl.1
theorem bz_vret (hd : decode M.2.1 pc = .ok (.return_, 1)) (hr : M.2.2.2.2 = none) (hσ : σ = σ') : bz_V l ad K n M d none σ' pc ls [] σ := by
  intro p e R s m args below meth c A Q mc ms C hR hQ H locs LS hP hS hl
  subst hσ
  exact hQ pc H locs LS ⟨hd, hr⟩ hP hS hl.1
theorem bz_mono {d2 : Nat} (h : d ≤ d2) (k : bz_V l ad K n M d r σ' pc ls st σ) : bz_V l ad K n M d2 r σ' pc ls st σ := by
  intro p e R s m args below meth c A Q mc ms C hR hQ H locs LS hP hS hl
  exact k p e R s m args below meth c A Q mc ms C ⟨by omega, by omega, hR.2.2⟩ hQ H locs LS hP hS hl
end BZ2
/-! calls -/
def bz_rm (d : Nat) : Room := { frames := d, cells := 0, slots := 0, locals := 38 * d }
def bz_w (M : bz_M) : List Cond := Cond.code M.1 M.2.1 M.2.2.2.1 M.2.2.2.2 :: bz_tbl
def bz_arg : List Value → List (Option Value)
  | [] => []
  | v :: vs => if v.category = 2 then some v :: none :: bz_arg vs else some v :: bz_arg vs
theorem bz_arg_in : ∀ (av : List Value) (j i : Nat) (v : Value), (bz_arg av)[i]? = some (some v) → (j + i, v) ∈ lv_args j av := by
  intro av
  induction av with
  | nil => intro j i v h; simp [bz_arg] at h
  | cons a t ih =>
    intro j i v h
    unfold bz_arg at h
    unfold lv_args
    by_cases hc : a.category = 2
    · rw [if_pos hc] at h
      rw [if_pos hc]
      match i, h with
      | 0, h => cases h; exact List.mem_cons_self
      | 1, h => cases h
      | i + 2, h =>
        have := ih (j + 2) i v h
        rw [show j + 2 + i = j + (i + 2) by omega] at this
        exact List.mem_cons_of_mem _ this
    · rw [if_neg hc] at h
      rw [if_neg hc]
      match i, h with
      | 0, h => cases h; exact List.mem_cons_self
      | i + 1, h =>
        have := ih (j + 1) i v h
        rw [show j + 1 + i = j + (i + 1) by omega] at this
        exact List.mem_cons_of_mem _ this
def bz_B (ad : Nat → Nat) (K : bz_K) (n : Nat) (σ : bz_S) (U : State) : Prop := va_P K.1 vwCl (bz_ws ad K σ n) U.heap ∧ bz_G ad K n (bz_Af ad n) U
def bz_Q (ad : Nat → Nat) (K : bz_K) (n : Nat) (r : Option Value) (σ' : bz_S) : Array Value → State → Outcome → State → Prop := fun _ st oc t => oc = .returned r ∧ va_P K.1 vwCl (bz_ws ad K σ' n) t.heap ∧ va_F (bz_Af ad n) st t
theorem bz_G_same {ad : Nat → Nat} {K : bz_K} {n : Nat} {A : Nat → Prop} {U U' : State} (h : bz_G ad K n A U) (hv : U.vm = U'.vm) (hh : U.heap = U'.heap) : bz_G ad K n A U' := by
  obtain ⟨h1, h2, h3, h4, h5, h6, h7, h8⟩ := h
  have ha : U.vm.Alike U'.vm := by rw [← hv]; exact Vm.Alike.refl U.vm
  refine ⟨va_K.moved ha h1, fun w hw => (h2 w hw).same (bz_nst_on hw) hv, h3, h4, ?_, ?_, ?_, ?_⟩
  · rw [← hh]; exact h5.moved ha
  · rw [← hh]; exact h6.moved ha
  · rw [← hh]; exact h7.moved ha
  · rw [← hh]; exact h8.moved ha
theorem bz_G_move {ad : Nat → Nat} {K : bz_K} {n : Nat} {A : Nat → Prop} {s U : State} {H : Heap} {locs : List Loc} (h : bz_G ad K n A s) (hS : va_S A s.heap H locs) (hU : U.heap = H) (hW : s.WarmedH U.vm) : bz_G ad K n (bz_Af ad n) U := by
  obtain ⟨h1, h2, h3, h4, h5, h6, h7, h8⟩ := h
  have hA : ∀ q, bz_Af ad n q → A q := fun q ⟨k, hk, e⟩ => by rw [e]; exact h4 k hk
  refine ⟨va_K.moved hW.alike h1, fun w hw => bz_nst_warm hw hW (h2 w hw), h3, fun k hk => ⟨k, hk, rfl⟩, ?_, ?_, ?_, ?_⟩
  · rw [hU]; exact ((h5.moved hW.alike).kept hS.2.1).narrow hA
  · rw [hU]; exact ((h6.moved hW.alike).kept hS.2.1).narrow hA
  · rw [hU]; exact ((h7.moved hW.alike).kept hS.2.1).narrow hA
  · rw [hU]; exact ((h8.moved hW.alike).kept hS.2.1).narrow hA
/-- what the tables say of a method -/
def bz_mv (M : bz_M) (N : Nat) : Prop := M.2.2.1 = M.1.cls ∧ plainName M.1.cls = true ∧ Cond.code M.1 M.2.1 M.2.2.2.1 M.2.2.2.2 ∈ bz_tbl ∧ Cond.initialized M.1.cls ∈ bz_tbl ∧ (M.1.cls ≠ "java/lang/invoke/MethodHandle" ∧ M.1.cls ≠ "java/lang/invoke/VarHandle" ∧ (parseMethodDescriptor M.1.desc).map (fun d => d.parameters.length) = some N) ∧ M.2.2.2.1 ≤ 19
def bz_mi (M : bz_M) : Prop := Cond.instanceMethod M.1 ∈ bz_tbl ∧ Cond.selects M.1.cls M.1 M.1 ∈ bz_tbl
theorem bz_tbl_good : GoodIn bz_tbl bz_tbl := fun _ h => ⟨h, good_of_word (List.mem_filter.mp h).2⟩
theorem bz_w_good {M : bz_M} {N : Nat} (h : bz_mv M N) : GoodIn bz_tbl (bz_w M) := fun w hw => (List.mem_cons.mp hw).elim (fun q => by rw [q]; exact bz_tbl_good _ h.2.2.1) (fun q => bz_tbl_good _ q)
theorem bz_met {l : Launch} {ad : Nat → Nat} {K : bz_K} {n : Nat} {M : bz_M} {N d z : Nat} {r : Option Value} {σ σ' : bz_S} {ls : List (Option Value)} {av : List Value} (hm : bz_mv M N) (hent : bz_arg av ++ List.replicate z none = ls) (hle : (lg_sl av).length ≤ M.2.2.2.1) (hV : bz_V l ad K n M d r σ' 0 ls [] σ) : Met l M.1 (bz_w M) (bz_rm d) (va_Pc av (bz_B ad K n σ)) (bz_Q ad K n r σ') 0 0 (bz_Af ad n) := by
  refine Met.ofW (cc := M.2.1) (maxL := M.2.2.2.1) (ret := M.2.2.2.2) hm.2.1 rfl ?_
  intro p e s m args below meth c s₁ B hml hv
  obtain ⟨rfl, hP, hG⟩ := hv
  have hts := atoms_spec (ws := bz_w M) B.pre
  have hown : s.vm.findClass M.1.cls = some m.cls := findClass_of_methodNamed B.named
  have hlocks := B.notSynchronized
  have hl := lv_entry av (n := M.2.2.2.1) hle
  rw [lg_entry_eq]
  refine hV p e (bz_rm d) s m av.toArray below meth c (bz_Af ad n) _ 0 0 ⟨B.exec, B.bytes, B.returns, hml, by rw [hm.1]; exact hown, fun w hw => hts w (List.mem_cons_of_mem _ hw), hG⟩ ⟨Nat.le_refl _, Nat.le_refl _, Nat.le_refl _, Nat.le_refl _⟩ ?_ s.heap [] _ hP va_S.rf ⟨hl.1, hl.2.1, fun i v h => ?_⟩
  · intro pc' H' locs' LS' hret hP' hS' hsz
    have hq : ∀ t : State, t.heap = H' → s.WarmedH t.vm → bz_Q ad K n r σ' av.toArray s (.returned r) t := fun t ht hW => ⟨rfl, by rw [ht]; exact hP', hS'.F ht⟩
    match r, hret, hq with
    | some (.int x), hret, hq =>
      rcases hret.2 with hr | ⟨hr, hn⟩
      · exact W.iret B.exec B.bytes (B.returns.trans hr) hq hS'.2.2 hret.1
      · exact W.zret B.exec B.bytes (B.returns.trans hr) hn hq hS'.2.2 hret.1
    | some (.long x), hret, hq => exact W.lret B.exec B.bytes (B.returns.trans hret.2) hq hS'.2.2 hret.1
    | none, hret, hq => exact W.vret B.exec B.bytes (B.returns.trans hret.2) hq hS'.2.2 hret.1
  · have hi : (bz_arg av)[i]? = some (some v) := by
      rw [← hent] at h
      by_cases hlt : i < (bz_arg av).length
      · rw [List.getElem?_append_left hlt] at h
        exact h
      · rw [List.getElem?_append_right (by omega)] at h
        have := List.mem_of_getElem? h
        rw [List.mem_replicate] at this
        cases this.2
    have := hl.2.2 _ (bz_arg_in av 0 i v hi)
    simpa using this
section BZ3
variable {l : Launch} {ad : Nat → Nat} {K : bz_K} {n : Nat} {M M' : bz_M} {d d' : Nat} {r r1 : Option Value} {σ σ' σ1 : bz_S} {pc idx N z : Nat} {ls ls' : List (Option Value)} {av st : List Value}
variable {p : Program} {e : Env} {R : Room} {s : State} {m : MethodId} {args : Array Value} {below : List Frame} {meth : Method} {c : Code} {A : Nat → Prop} {Q : State → Prop} {mc ms : Nat} {H : Heap} {locs : List Loc} {LS : Array Slot}
theorem bz_blind {av : List Value} : FrameBlind (va_Pc av (bz_B ad K n σ)) := fun a U g mk q => ⟨q.1, q.2.1, bz_G_same q.2.2 rfl rfl⟩
theorem bz_goes {st0 : List Value} {a : Array Value} (hr : va_Run p l e R s m args below meth c H locs mc ms 0 0 (F0 m pc LS st0) st (bz_Q ad K n r1 σ1 a) (bz_Af ad n)) (hA : ∀ k : Nat, k < n → A (ad k)) (hS : va_S A s.heap H locs)
    (kk : ∀ (H1 : Heap) (locs1 : List Loc), va_P K.1 vwCl (bz_ws ad K σ1 n) H1 → va_S A s.heap H1 locs1 → W p l e R s m args below meth c H1 locs1 mc ms Q (F0 m (pc + 3) LS (r1.toList ++ st))) : W p l e R s m args below meth c H locs mc ms Q (F0 m pc LS st0) := by
  have hAf : ∀ q, bz_Af ad n q → A q := fun q ⟨k, hk, e⟩ => by rw [e]; exact hA k hk
  intro T hT X
  obtain ⟨v, st₀, t, T', L, h0, X', hL, e1, e2, ⟨hv, hp, hz, hk⟩, go⟩ := hr T hT X
  cases hv
  rw [h0] at hz hk
  obtain ⟨t2, a1, b1⟩ := kk T'.heap (locs ++ L) (by rw [e1]; exact hp)
    ⟨Nat.le_trans hS.1 (by rw [e1]; exact hz), fun q h1 h2 => by rw [e1, hk q (Nat.lt_of_lt_of_le h1 hS.1) (fun w => h2 (hAf q w))]; exact hS.2.1 q h1 h2, fun q hq => by
      rcases List.mem_append.mp hq with h | h
      · exact hS.2.2 q h
      · exact hAf _ (hL q h)⟩ T' rfl X'
  exact ⟨t2, go t2 a1, b1⟩
theorem bz_callV {k ci b : Nat} {fl : List (Option Nat)} {qc : vw_C} (hm : bz_mv M' N) (hi : bz_mi M') (hlk : Cond.methodLink M.2.2.1 idx M'.1 ∈ bz_tbl) (hd : decode M.2.1 pc = .ok (.invokevirtual idx, 3)) (hdd : d' < d) (hs : bz_sh k = (4, ci, b, fl)) (hk : k < n) (hc : vwCl[ci]? = some qc) (hcn : qc.1 = M'.1.cls) (hN : av.length = N) (hent : bz_arg (.ref (ad k) :: av) ++ List.replicate z none = ls') (hle : (lg_sl (.ref (ad k) :: av)).length ≤ M'.2.2.2.1) (hrest : (st.map fun v => v.category).sum ≤ 8) (hV : bz_V l ad K n M' d' r1 σ1 0 ls' [] σ) (kk : bz_V l ad K n M d r σ' (pc + 3) ls (r1.toList ++ st) σ1) : bz_V l ad K n M d r σ' pc ls (av.reverse ++ .ref (ad k) :: st) σ := by
  intro p e R s m args below meth c A Q mc ms C hR hQ H locs LS hP hS hl
  have he : (bz_ws ad K σ n)[k]? = some (ad k, .inr (ci, fl.map (bz_fv ad σ))) := by rw [bz_ws_at hk, bz_ent4 hs]
  have hrc := va_recv C.2.2.2.2.2.2.1 hP hc he
  rw [hcn] at hrc
  have hG : GoodIn bz_tbl (wsV M.2.2.1 idx M'.1.cls M'.1 (bz_w M')) := fun w hw => by
    rcases List.mem_append.mp hw with h | h
    · refine bz_tbl_good _ ?_
      simp only [List.mem_cons, List.not_mem_nil, or_false] at h
      rcases h with rfl | rfl | rfl | rfl
      · exact hlk
      · exact hi.1
      · exact hi.2
      · exact hm.2.2.2.1
    · exact bz_w_good hm w h
  refine bz_goes (r1 := r1) (σ1 := σ1) (ad := ad) (K := K) (n := n) (va_runV (As := av) (rest := st) ⟨C.1, C.2.1, C.2.2.2.1, C.2.2.2.2.1, C.2.2.2.2.2.1⟩ (bz_met hm hent hle hV) (cwV N C.2.2.2.2.2.1 hG rfl rfl rfl ⟨rfl, hm.2.2.2.2.1⟩ ⟨by show d' + 1 ≤ _; omega, by show 8 + (M'.2.2.2.1 + 11) + 38 * d' ≤ _; have := hm.2.2.2.2.2; omega⟩) ⟨bz_blind, hrc, fun U hU hW => ⟨rfl, by rw [hU]; exact hP, bz_G_move C.2.2.2.2.2.2 hS hU hW⟩⟩ rfl hN hl.1 rfl (lv_room hrest) hd ⟨hR.2.2.1, hR.2.2.2⟩) C.2.2.2.2.2.2.2.2.2.1 hS (fun H1 locs1 hP1 hS1 => kk p e R s m args below meth c A Q mc ms C hR hQ H1 locs1 LS hP1 hS1 hl)
theorem bz_callVN {k ci b : Nat} {fl : List (Option Nat)} {qc : vw_C} {host : String} (hm : bz_mv M' N) (hi : bz_mi M') (hlk : Cond.methodLinkNest M.2.2.1 idx M'.1 host ∈ bz_nst) (hd : decode M.2.1 pc = .ok (.invokevirtual idx, 3)) (hdd : d' < d) (hs : bz_sh k = (4, ci, b, fl)) (hk : k < n) (hc : vwCl[ci]? = some qc) (hcn : qc.1 = M'.1.cls) (hN : av.length = N) (hent : bz_arg (.ref (ad k) :: av) ++ List.replicate z none = ls') (hle : (lg_sl (.ref (ad k) :: av)).length ≤ M'.2.2.2.1) (hrest : (st.map fun v => v.category).sum ≤ 8) (hV : bz_V l ad K n M' d' r1 σ1 0 ls' [] σ) (kk : bz_V l ad K n M d r σ' (pc + 3) ls (r1.toList ++ st) σ1) : bz_V l ad K n M d r σ' pc ls (av.reverse ++ .ref (ad k) :: st) σ := by
  intro p e R s m args below meth c A Q mc ms C hR hQ H locs LS hP hS hl
  have he : (bz_ws ad K σ n)[k]? = some (ad k, .inr (ci, fl.map (bz_fv ad σ))) := by rw [bz_ws_at hk, bz_ent4 hs]
  have hrc := va_recv C.2.2.2.2.2.2.1 hP hc he
  rw [hcn] at hrc
  have hts := C.2.2.2.2.2.1
  refine bz_goes (r1 := r1) (σ1 := σ1) (ad := ad) (K := K) (n := n) (va_runVN (As := av) (rest := st) ⟨C.1, C.2.1, C.2.2.2.1, C.2.2.2.2.1, C.2.2.2.2.2.1⟩ (bz_met hm hent hle hV) ⟨va_cnB N C.2.2.2.2.2.1 (bz_w_good hm) rfl rfl rfl (C.2.2.2.2.2.2.2.1 _ hlk) (hts _ hm.2.2.2.1) hm.2.2.2.2.1 ⟨by show d' + 1 ≤ _; omega, by show 8 + (M'.2.2.2.1 + 11) + 38 * d' ≤ _; have := hm.2.2.2.2.2; omega⟩, hts _ hi.1, hts _ hi.2⟩ ⟨bz_blind, hrc, fun U hU hW => ⟨rfl, by rw [hU]; exact hP, bz_G_move C.2.2.2.2.2.2 hS hU hW⟩⟩ rfl hN hl.1 rfl (lv_room hrest) hd ⟨hR.2.2.1, hR.2.2.2⟩) C.2.2.2.2.2.2.2.2.2.1 hS (fun H1 locs1 hP1 hS1 => kk p e R s m args below meth c A Q mc ms C hR hQ H1 locs1 LS hP1 hS1 hl)
theorem bz_callS (hm : bz_mv M' N) (hi : Cond.static M'.1 ∈ bz_tbl) (hlk : Cond.methodLink M.2.2.1 idx M'.1 ∈ bz_tbl) (hd : decode M.2.1 pc = .ok (.invokestatic idx, 3)) (hdd : d' < d) (hN : av.length = N) (hent : bz_arg av ++ List.replicate z none = ls') (hle : (lg_sl av).length ≤ M'.2.2.2.1) (hrest : (st.map fun v => v.category).sum ≤ 8) (hV : bz_V l ad K n M' d' r1 σ1 0 ls' [] σ) (kk : bz_V l ad K n M d r σ' (pc + 3) ls (r1.toList ++ st) σ1) : bz_V l ad K n M d r σ' pc ls (av.reverse ++ st) σ := by
  intro p e R s m args below meth c A Q mc ms C hR hQ H locs LS hP hS hl
  have hG : GoodIn bz_tbl (va_wsS M.2.2.1 idx M'.1 (bz_w M')) := fun w hw => by
    rcases List.mem_append.mp hw with h | h
    · refine bz_tbl_good _ ?_
      simp only [List.mem_cons, List.not_mem_nil, or_false] at h
      rcases h with rfl | rfl | rfl
      · exact hlk
      · exact hi
      · exact hm.2.2.2.1
    · exact bz_w_good hm w h
  refine bz_goes (r1 := r1) (σ1 := σ1) (ad := ad) (K := K) (n := n) (va_runS (As := av) (rest := st) ⟨C.1, C.2.1, C.2.2.2.1, C.2.2.2.2.1, C.2.2.2.2.2.1⟩ (bz_met hm hent hle hV) (va_cwS N C.2.2.2.2.2.1 hG rfl rfl rfl hm.2.2.2.2.1 ⟨by show d' + 1 ≤ _; omega, by show 8 + (M'.2.2.2.1 + 11) + 38 * d' ≤ _; have := hm.2.2.2.2.2; omega⟩) ⟨bz_blind, fun U hU hW => ⟨rfl, by rw [hU]; exact hP, bz_G_move C.2.2.2.2.2.2 hS hU hW⟩⟩ rfl hN hl.1 rfl (lv_room hrest) hd ⟨hR.2.2.1, hR.2.2.2⟩) C.2.2.2.2.2.2.2.2.2.1 hS (fun H1 locs1 hP1 hS1 => kk p e R s m args below meth c A Q mc ms C hR hQ H1 locs1 LS hP1 hS1 hl)
theorem bz_callSN {host : String} (hm : bz_mv M' N) (hi : Cond.static M'.1 ∈ bz_tbl) (hlk : Cond.methodLinkNest M.2.2.1 idx M'.1 host ∈ bz_nst) (hd : decode M.2.1 pc = .ok (.invokestatic idx, 3)) (hdd : d' < d) (hN : av.length = N) (hent : bz_arg av ++ List.replicate z none = ls') (hle : (lg_sl av).length ≤ M'.2.2.2.1) (hrest : (st.map fun v => v.category).sum ≤ 8) (hV : bz_V l ad K n M' d' r1 σ1 0 ls' [] σ) (kk : bz_V l ad K n M d r σ' (pc + 3) ls (r1.toList ++ st) σ1) : bz_V l ad K n M d r σ' pc ls (av.reverse ++ st) σ := by
  intro p e R s m args below meth c A Q mc ms C hR hQ H locs LS hP hS hl
  have hts := C.2.2.2.2.2.1
  refine bz_goes (r1 := r1) (σ1 := σ1) (ad := ad) (K := K) (n := n) (va_runSN (As := av) (rest := st) ⟨C.1, C.2.1, C.2.2.2.1, C.2.2.2.2.1, C.2.2.2.2.2.1⟩ (bz_met hm hent hle hV) ⟨va_cnB N C.2.2.2.2.2.1 (bz_w_good hm) rfl rfl rfl (C.2.2.2.2.2.2.2.1 _ hlk) (hts _ hm.2.2.2.1) hm.2.2.2.2.1 ⟨by show d' + 1 ≤ _; omega, by show 8 + (M'.2.2.2.1 + 11) + 38 * d' ≤ _; have := hm.2.2.2.2.2; omega⟩, hts _ hi, trivial⟩ ⟨bz_blind, fun U hU hW => ⟨rfl, by rw [hU]; exact hP, bz_G_move C.2.2.2.2.2.2 hS hU hW⟩⟩ rfl hN hl.1 rfl (lv_room hrest) hd ⟨hR.2.2.1, hR.2.2.2⟩) C.2.2.2.2.2.2.2.2.2.1 hS (fun H1 locs1 hP1 hS1 => kk p e R s m args below meth c A Q mc ms C hR hQ H1 locs1 LS hP1 hS1 hl)
end BZ3
end
section
theorem bz_one {w : Cond} (i : Nat) (h : lw_tbl[i]? = some w) (g : goodWord w = true) : w ∈ bz_tbl := List.mem_filter.mpr ⟨List.mem_of_getElem? h, g⟩
theorem bz_oneN {w : Cond} (i : Nat) (h : lw_tbl[i]? = some w) (g : bz_isNest w = true) : w ∈ bz_nst := List.mem_filter.mpr ⟨List.mem_of_getElem? h, g⟩
theorem bz_sub {ws : List Cond} (ps : List Nat) (hp : ws = ps.filterMap (fun i => lw_tbl[i]?)) (h : ws.all goodWord = true) : ∀ w ∈ ws, w ∈ bz_tbl := by
  intro w hw
  have h1 := List.all_eq_true.mp h w hw
  rw [hp] at hw
  obtain ⟨i, -, hi⟩ := List.mem_filterMap.mp hw
  exact bz_one i hi h1
theorem wi_BasisMovesLaw : Cond.initialized "BasisMovesLaw" ∈ bz_tbl := bz_one 63 (by decide +kernel) rfl
theorem wi_BasisMoves : Cond.initialized "BasisMoves" ∈ bz_tbl := bz_one 64 (by decide +kernel) rfl
theorem wi_BasisMoves_Partitions : Cond.initialized "BasisMoves$Partitions" ∈ bz_tbl := bz_one 65 (by decide +kernel) rfl
theorem wi_java_lang_Math : Cond.initialized "java/lang/Math" ∈ bz_tbl := bz_one 66 (by decide +kernel) rfl
theorem wi_BasisMoves_Bases : Cond.initialized "BasisMoves$Bases" ∈ bz_tbl := bz_one 67 (by decide +kernel) rfl
theorem wi_BasisMoves_Work : Cond.initialized "BasisMoves$Work" ∈ bz_tbl := bz_one 68 (by decide +kernel) rfl
theorem wi_BasisMovesModel : Cond.initialized "BasisMovesModel" ∈ bz_tbl := bz_one 69 (by decide +kernel) rfl
theorem wi_java_util_Arrays : Cond.initialized "java/util/Arrays" ∈ bz_tbl := bz_one 70 (by decide +kernel) rfl
theorem wi_java_lang_System : Cond.initialized "java/lang/System" ∈ bz_tbl := bz_one 71 (by decide +kernel) rfl
abbrev mX0_init : bz_M := (yX0_init, cX0_init, RX0, 2, none)
theorem wc_X0_init : Cond.code yX0_init cX0_init 2 none ∈ bz_tbl := bz_one 184 (by decide +kernel) rfl
theorem mv_X0_init : bz_mv mX0_init 1 := ⟨rfl, (by decide +kernel), wc_X0_init, wi_BasisMoves_Bases, (by decide +kernel), (by decide +kernel)⟩
abbrev mX0_fromWeights : bz_M := (yX0_fromWeights, cX0_fromWeights, RX0, 4, none)
theorem wc_X0_fromWeights : Cond.code yX0_fromWeights cX0_fromWeights 4 none ∈ bz_tbl := bz_one 360 (by decide +kernel) rfl
theorem mv_X0_fromWeights : bz_mv mX0_fromWeights 3 := ⟨rfl, (by decide +kernel), wc_X0_fromWeights, wi_BasisMoves_Bases, (by decide +kernel), (by decide +kernel)⟩
theorem wn_X0_fromWeights : Cond.instanceMethod yX0_fromWeights ∈ bz_tbl := bz_one 359 (by decide +kernel) rfl
theorem wl_X0_fromWeights : Cond.selects RX0 yX0_fromWeights yX0_fromWeights ∈ bz_tbl := bz_one 19 (by decide +kernel) rfl
theorem mi_X0_fromWeights : bz_mi mX0_fromWeights := ⟨wn_X0_fromWeights, wl_X0_fromWeights⟩
abbrev mX0_toWeights : bz_M := (yX0_toWeights, cX0_toWeights, RX0, 4, none)
theorem wc_X0_toWeights : Cond.code yX0_toWeights cX0_toWeights 4 none ∈ bz_tbl := bz_one 297 (by decide +kernel) rfl
theorem mv_X0_toWeights : bz_mv mX0_toWeights 3 := ⟨rfl, (by decide +kernel), wc_X0_toWeights, wi_BasisMoves_Bases, (by decide +kernel), (by decide +kernel)⟩
theorem wn_X0_toWeights : Cond.instanceMethod yX0_toWeights ∈ bz_tbl := bz_one 296 (by decide +kernel) rfl
theorem wl_X0_toWeights : Cond.selects RX0 yX0_toWeights yX0_toWeights ∈ bz_tbl := bz_one 10 (by decide +kernel) rfl
theorem mi_X0_toWeights : bz_mi mX0_toWeights := ⟨wn_X0_toWeights, wl_X0_toWeights⟩
abbrev mX0_startFor : bz_M := (yX0_startFor, cX0_startFor, RX0, 2, (some .int))
theorem wc_X0_startFor : Cond.code yX0_startFor cX0_startFor 2 (some .int) ∈ bz_tbl := bz_one 323 (by decide +kernel) rfl
theorem mv_X0_startFor : bz_mv mX0_startFor 1 := ⟨rfl, (by decide +kernel), wc_X0_startFor, wi_BasisMoves_Bases, (by decide +kernel), (by decide +kernel)⟩
theorem wn_X0_startFor : Cond.instanceMethod yX0_startFor ∈ bz_tbl := bz_one 322 (by decide +kernel) rfl
theorem wl_X0_startFor : Cond.selects RX0 yX0_startFor yX0_startFor ∈ bz_tbl := bz_one 15 (by decide +kernel) rfl
theorem mi_X0_startFor : bz_mi mX0_startFor := ⟨wn_X0_startFor, wl_X0_startFor⟩
abbrev mX0_endFor : bz_M := (yX0_endFor, cX0_endFor, RX0, 2, (some .int))
theorem wc_X0_endFor : Cond.code yX0_endFor cX0_endFor 2 (some .int) ∈ bz_tbl := bz_one 308 (by decide +kernel) rfl
theorem mv_X0_endFor : bz_mv mX0_endFor 1 := ⟨rfl, (by decide +kernel), wc_X0_endFor, wi_BasisMoves_Bases, (by decide +kernel), (by decide +kernel)⟩
theorem wn_X0_endFor : Cond.instanceMethod yX0_endFor ∈ bz_tbl := bz_one 307 (by decide +kernel) rfl
theorem wl_X0_endFor : Cond.selects RX0 yX0_endFor yX0_endFor ∈ bz_tbl := bz_one 12 (by decide +kernel) rfl
theorem mi_X0_endFor : bz_mi mX0_endFor := ⟨wn_X0_endFor, wl_X0_endFor⟩
abbrev mX0_tableauxToWeights : bz_M := (yX0_tableauxToWeights, cX0_tableauxToWeights, RX0, 7, none)
theorem wc_X0_tableauxToWeights : Cond.code yX0_tableauxToWeights cX0_tableauxToWeights 7 none ∈ bz_tbl := bz_one 329 (by decide +kernel) rfl
theorem mv_X0_tableauxToWeights : bz_mv mX0_tableauxToWeights 2 := ⟨rfl, (by decide +kernel), wc_X0_tableauxToWeights, wi_BasisMoves_Bases, (by decide +kernel), (by decide +kernel)⟩
theorem wn_X0_tableauxToWeights : Cond.instanceMethod yX0_tableauxToWeights ∈ bz_tbl := bz_one 328 (by decide +kernel) rfl
theorem wl_X0_tableauxToWeights : Cond.selects RX0 yX0_tableauxToWeights yX0_tableauxToWeights ∈ bz_tbl := bz_one 16 (by decide +kernel) rfl
theorem mi_X0_tableauxToWeights : bz_mi mX0_tableauxToWeights := ⟨wn_X0_tableauxToWeights, wl_X0_tableauxToWeights⟩
abbrev mX0_weightsToTableaux : bz_M := (yX0_weightsToTableaux, cX0_weightsToTableaux, RX0, 7, none)
theorem wc_X0_weightsToTableaux : Cond.code yX0_weightsToTableaux cX0_weightsToTableaux 7 none ∈ bz_tbl := bz_one 364 (by decide +kernel) rfl
theorem mv_X0_weightsToTableaux : bz_mv mX0_weightsToTableaux 2 := ⟨rfl, (by decide +kernel), wc_X0_weightsToTableaux, wi_BasisMoves_Bases, (by decide +kernel), (by decide +kernel)⟩
theorem wn_X0_weightsToTableaux : Cond.instanceMethod yX0_weightsToTableaux ∈ bz_tbl := bz_one 363 (by decide +kernel) rfl
theorem wl_X0_weightsToTableaux : Cond.selects RX0 yX0_weightsToTableaux yX0_weightsToTableaux ∈ bz_tbl := bz_one 20 (by decide +kernel) rfl
theorem mi_X0_weightsToTableaux : bz_mi mX0_weightsToTableaux := ⟨wn_X0_weightsToTableaux, wl_X0_weightsToTableaux⟩
abbrev mX0_completesToTableaux : bz_M := (yX0_completesToTableaux, cX0_completesToTableaux, RX0, 7, none)
theorem wc_X0_completesToTableaux : Cond.code yX0_completesToTableaux cX0_completesToTableaux 7 none ∈ bz_tbl := bz_one 304 (by decide +kernel) rfl
theorem mv_X0_completesToTableaux : bz_mv mX0_completesToTableaux 2 := ⟨rfl, (by decide +kernel), wc_X0_completesToTableaux, wi_BasisMoves_Bases, (by decide +kernel), (by decide +kernel)⟩
theorem wn_X0_completesToTableaux : Cond.instanceMethod yX0_completesToTableaux ∈ bz_tbl := bz_one 303 (by decide +kernel) rfl
theorem wl_X0_completesToTableaux : Cond.selects RX0 yX0_completesToTableaux yX0_completesToTableaux ∈ bz_tbl := bz_one 11 (by decide +kernel) rfl
theorem mi_X0_completesToTableaux : bz_mi mX0_completesToTableaux := ⟨wn_X0_completesToTableaux, wl_X0_completesToTableaux⟩
abbrev mX0_tableauxToCompletes : bz_M := (yX0_tableauxToCompletes, cX0_tableauxToCompletes, RX0, 7, none)
theorem wc_X0_tableauxToCompletes : Cond.code yX0_tableauxToCompletes cX0_tableauxToCompletes 7 none ∈ bz_tbl := bz_one 368 (by decide +kernel) rfl
theorem mv_X0_tableauxToCompletes : bz_mv mX0_tableauxToCompletes 2 := ⟨rfl, (by decide +kernel), wc_X0_tableauxToCompletes, wi_BasisMoves_Bases, (by decide +kernel), (by decide +kernel)⟩
theorem wn_X0_tableauxToCompletes : Cond.instanceMethod yX0_tableauxToCompletes ∈ bz_tbl := bz_one 367 (by decide +kernel) rfl
theorem wl_X0_tableauxToCompletes : Cond.selects RX0 yX0_tableauxToCompletes yX0_tableauxToCompletes ∈ bz_tbl := bz_one 21 (by decide +kernel) rfl
theorem mi_X0_tableauxToCompletes : bz_mi mX0_tableauxToCompletes := ⟨wn_X0_tableauxToCompletes, wl_X0_tableauxToCompletes⟩
abbrev mX0_powersToTableaux : bz_M := (yX0_powersToTableaux, cX0_powersToTableaux, RX0, 7, none)
theorem wc_X0_powersToTableaux : Cond.code yX0_powersToTableaux cX0_powersToTableaux 7 none ∈ bz_tbl := bz_one 319 (by decide +kernel) rfl
theorem mv_X0_powersToTableaux : bz_mv mX0_powersToTableaux 2 := ⟨rfl, (by decide +kernel), wc_X0_powersToTableaux, wi_BasisMoves_Bases, (by decide +kernel), (by decide +kernel)⟩
theorem wn_X0_powersToTableaux : Cond.instanceMethod yX0_powersToTableaux ∈ bz_tbl := bz_one 318 (by decide +kernel) rfl
theorem wl_X0_powersToTableaux : Cond.selects RX0 yX0_powersToTableaux yX0_powersToTableaux ∈ bz_tbl := bz_one 14 (by decide +kernel) rfl
theorem mi_X0_powersToTableaux : bz_mi mX0_powersToTableaux := ⟨wn_X0_powersToTableaux, wl_X0_powersToTableaux⟩
abbrev mX0_tableauxToPowers : bz_M := (yX0_tableauxToPowers, cX0_tableauxToPowers, RX0, 7, none)
theorem wc_X0_tableauxToPowers : Cond.code yX0_tableauxToPowers cX0_tableauxToPowers 7 none ∈ bz_tbl := bz_one 372 (by decide +kernel) rfl
theorem mv_X0_tableauxToPowers : bz_mv mX0_tableauxToPowers 2 := ⟨rfl, (by decide +kernel), wc_X0_tableauxToPowers, wi_BasisMoves_Bases, (by decide +kernel), (by decide +kernel)⟩
theorem wn_X0_tableauxToPowers : Cond.instanceMethod yX0_tableauxToPowers ∈ bz_tbl := bz_one 371 (by decide +kernel) rfl
theorem wl_X0_tableauxToPowers : Cond.selects RX0 yX0_tableauxToPowers yX0_tableauxToPowers ∈ bz_tbl := bz_one 22 (by decide +kernel) rfl
theorem mi_X0_tableauxToPowers : bz_mi mX0_tableauxToPowers := ⟨wn_X0_tableauxToPowers, wl_X0_tableauxToPowers⟩
abbrev mX0_conjugate : bz_M := (yX0_conjugate, cX0_conjugate, RX0, 5, none)
theorem wc_X0_conjugate : Cond.code yX0_conjugate cX0_conjugate 5 none ∈ bz_tbl := bz_one 314 (by decide +kernel) rfl
theorem mv_X0_conjugate : bz_mv mX0_conjugate 2 := ⟨rfl, (by decide +kernel), wc_X0_conjugate, wi_BasisMoves_Bases, (by decide +kernel), (by decide +kernel)⟩
theorem wn_X0_conjugate : Cond.instanceMethod yX0_conjugate ∈ bz_tbl := bz_one 313 (by decide +kernel) rfl
theorem wl_X0_conjugate : Cond.selects RX0 yX0_conjugate yX0_conjugate ∈ bz_tbl := bz_one 13 (by decide +kernel) rfl
theorem mi_X0_conjugate : bz_mi mX0_conjugate := ⟨wn_X0_conjugate, wl_X0_conjugate⟩
abbrev mX1_init : bz_M := (yX1_init, cX1_init, RX1, 3, none)
theorem wc_X1_init : Cond.code yX1_init cX1_init 3 none ∈ bz_tbl := bz_one 84 (by decide +kernel) rfl
theorem mv_X1_init : bz_mv mX1_init 0 := ⟨rfl, (by decide +kernel), wc_X1_init, wi_BasisMoves_Partitions, (by decide +kernel), (by decide +kernel)⟩
abbrev mX1_startOf : bz_M := (yX1_startOf, cX1_startOf, RX1, 1, (some .int))
theorem wc_X1_startOf : Cond.code yX1_startOf cX1_startOf 1 (some .int) ∈ bz_tbl := bz_one 120 (by decide +kernel) rfl
theorem mv_X1_startOf : bz_mv mX1_startOf 1 := ⟨rfl, (by decide +kernel), wc_X1_startOf, wi_BasisMoves_Partitions, (by decide +kernel), (by decide +kernel)⟩
theorem ws_X1_startOf : Cond.static yX1_startOf ∈ bz_tbl := bz_one 119 (by decide +kernel) rfl
abbrev mX1_endOf : bz_M := (yX1_endOf, cX1_endOf, RX1, 1, (some .int))
theorem wc_X1_endOf : Cond.code yX1_endOf cX1_endOf 1 (some .int) ∈ bz_tbl := bz_one 115 (by decide +kernel) rfl
theorem mv_X1_endOf : bz_mv mX1_endOf 1 := ⟨rfl, (by decide +kernel), wc_X1_endOf, wi_BasisMoves_Partitions, (by decide +kernel), (by decide +kernel)⟩
theorem ws_X1_endOf : Cond.static yX1_endOf ∈ bz_tbl := bz_one 114 (by decide +kernel) rfl
abbrev mX1_isPlace : bz_M := (yX1_isPlace, cX1_isPlace, RX1, 1, (some .boolean))
theorem wc_X1_isPlace : Cond.code yX1_isPlace cX1_isPlace 1 (some .boolean) ∈ bz_tbl := bz_one 99 (by decide +kernel) rfl
theorem mv_X1_isPlace : bz_mv mX1_isPlace 1 := ⟨rfl, (by decide +kernel), wc_X1_isPlace, wi_BasisMoves_Partitions, (by decide +kernel), (by decide +kernel)⟩
theorem ws_X1_isPlace : Cond.static yX1_isPlace ∈ bz_tbl := bz_one 98 (by decide +kernel) rfl
abbrev mX1_partAt : bz_M := (yX1_partAt, cX1_partAt, RX1, 3, (some .int))
theorem wc_X1_partAt : Cond.code yX1_partAt cX1_partAt 3 (some .int) ∈ bz_tbl := bz_one 93 (by decide +kernel) rfl
theorem mv_X1_partAt : bz_mv mX1_partAt 2 := ⟨rfl, (by decide +kernel), wc_X1_partAt, wi_BasisMoves_Partitions, (by decide +kernel), (by decide +kernel)⟩
theorem wn_X1_partAt : Cond.instanceMethod yX1_partAt ∈ bz_tbl := bz_one 92 (by decide +kernel) rfl
theorem wl_X1_partAt : Cond.selects RX1 yX1_partAt yX1_partAt ∈ bz_tbl := bz_one 1 (by decide +kernel) rfl
theorem mi_X1_partAt : bz_mi mX1_partAt := ⟨wn_X1_partAt, wl_X1_partAt⟩
abbrev mX1_markOf : bz_M := (yX1_markOf, cX1_markOf, RX1, 1, (some .int))
theorem wc_X1_markOf : Cond.code yX1_markOf cX1_markOf 1 (some .int) ∈ bz_tbl := bz_one 104 (by decide +kernel) rfl
theorem mv_X1_markOf : bz_mv mX1_markOf 1 := ⟨rfl, (by decide +kernel), wc_X1_markOf, wi_BasisMoves_Partitions, (by decide +kernel), (by decide +kernel)⟩
theorem ws_X1_markOf : Cond.static yX1_markOf ∈ bz_tbl := bz_one 103 (by decide +kernel) rfl
abbrev mX1_numberOf : bz_M := (yX1_numberOf, cX1_numberOf, RX1, 5, (some .int))
theorem wc_X1_numberOf : Cond.code yX1_numberOf cX1_numberOf 5 (some .int) ∈ bz_tbl := bz_one 112 (by decide +kernel) rfl
theorem mv_X1_numberOf : bz_mv mX1_numberOf 2 := ⟨rfl, (by decide +kernel), wc_X1_numberOf, wi_BasisMoves_Partitions, (by decide +kernel), (by decide +kernel)⟩
theorem wn_X1_numberOf : Cond.instanceMethod yX1_numberOf ∈ bz_tbl := bz_one 111 (by decide +kernel) rfl
theorem wl_X1_numberOf : Cond.selects RX1 yX1_numberOf yX1_numberOf ∈ bz_tbl := bz_one 3 (by decide +kernel) rfl
theorem mi_X1_numberOf : bz_mi mX1_numberOf := ⟨wn_X1_numberOf, wl_X1_numberOf⟩
abbrev mX1_measure : bz_M := (yX1_measure, cX1_measure, RX1, 5, none)
theorem wc_X1_measure : Cond.code yX1_measure cX1_measure 5 none ∈ bz_tbl := bz_one 89 (by decide +kernel) rfl
theorem mv_X1_measure : bz_mv mX1_measure 1 := ⟨rfl, (by decide +kernel), wc_X1_measure, wi_BasisMoves_Partitions, (by decide +kernel), (by decide +kernel)⟩
theorem wn_X1_measure : Cond.instanceMethod yX1_measure ∈ bz_tbl := bz_one 88 (by decide +kernel) rfl
theorem wl_X1_measure : Cond.selects RX1 yX1_measure yX1_measure ∈ bz_tbl := bz_one 0 (by decide +kernel) rfl
theorem mi_X1_measure : bz_mi mX1_measure := ⟨wn_X1_measure, wl_X1_measure⟩
abbrev mX1_findConjugate : bz_M := (yX1_findConjugate, cX1_findConjugate, RX1, 6, (some .int))
theorem wc_X1_findConjugate : Cond.code yX1_findConjugate cX1_findConjugate 6 (some .int) ∈ bz_tbl := bz_one 108 (by decide +kernel) rfl
theorem mv_X1_findConjugate : bz_mv mX1_findConjugate 1 := ⟨rfl, (by decide +kernel), wc_X1_findConjugate, wi_BasisMoves_Partitions, (by decide +kernel), (by decide +kernel)⟩
theorem wn_X1_findConjugate : Cond.instanceMethod yX1_findConjugate ∈ bz_tbl := bz_one 107 (by decide +kernel) rfl
theorem wl_X1_findConjugate : Cond.selects RX1 yX1_findConjugate yX1_findConjugate ∈ bz_tbl := bz_one 2 (by decide +kernel) rfl
theorem mi_X1_findConjugate : bz_mi mX1_findConjugate := ⟨wn_X1_findConjugate, wl_X1_findConjugate⟩
abbrev mX1_joined : bz_M := (yX1_joined, cX1_joined, RX1, 3, (some .int))
theorem wc_X1_joined : Cond.code yX1_joined cX1_joined 3 (some .int) ∈ bz_tbl := bz_one 427 (by decide +kernel) rfl
theorem mv_X1_joined : bz_mv mX1_joined 2 := ⟨rfl, (by decide +kernel), wc_X1_joined, wi_BasisMoves_Partitions, (by decide +kernel), (by decide +kernel)⟩
theorem wn_X1_joined : Cond.instanceMethod yX1_joined ∈ bz_tbl := bz_one 426 (by decide +kernel) rfl
theorem wl_X1_joined : Cond.selects RX1 yX1_joined yX1_joined ∈ bz_tbl := bz_one 27 (by decide +kernel) rfl
theorem mi_X1_joined : bz_mi mX1_joined := ⟨wn_X1_joined, wl_X1_joined⟩
abbrev mX1_multiplied : bz_M := (yX1_multiplied, cX1_multiplied, RX1, 6, (some .int))
theorem wc_X1_multiplied : Cond.code yX1_multiplied cX1_multiplied 6 (some .int) ∈ bz_tbl := bz_one 480 (by decide +kernel) rfl
theorem mv_X1_multiplied : bz_mv mX1_multiplied 2 := ⟨rfl, (by decide +kernel), wc_X1_multiplied, wi_BasisMoves_Partitions, (by decide +kernel), (by decide +kernel)⟩
theorem wn_X1_multiplied : Cond.instanceMethod yX1_multiplied ∈ bz_tbl := bz_one 479 (by decide +kernel) rfl
theorem wl_X1_multiplied : Cond.selects RX1 yX1_multiplied yX1_multiplied ∈ bz_tbl := bz_one 35 (by decide +kernel) rfl
theorem mi_X1_multiplied : bz_mi mX1_multiplied := ⟨wn_X1_multiplied, wl_X1_multiplied⟩
abbrev mX1_kostkaOf : bz_M := (yX1_kostkaOf, cX1_kostkaOf, RX1, 3, (some .int))
theorem wc_X1_kostkaOf : Cond.code yX1_kostkaOf cX1_kostkaOf 3 (some .int) ∈ bz_tbl := bz_one 132 (by decide +kernel) rfl
theorem mv_X1_kostkaOf : bz_mv mX1_kostkaOf 2 := ⟨rfl, (by decide +kernel), wc_X1_kostkaOf, wi_BasisMoves_Partitions, (by decide +kernel), (by decide +kernel)⟩
theorem wn_X1_kostkaOf : Cond.instanceMethod yX1_kostkaOf ∈ bz_tbl := bz_one 131 (by decide +kernel) rfl
theorem wl_X1_kostkaOf : Cond.selects RX1 yX1_kostkaOf yX1_kostkaOf ∈ bz_tbl := bz_one 6 (by decide +kernel) rfl
theorem mi_X1_kostkaOf : bz_mi mX1_kostkaOf := ⟨wn_X1_kostkaOf, wl_X1_kostkaOf⟩
abbrev mX1_characterOf : bz_M := (yX1_characterOf, cX1_characterOf, RX1, 3, (some .int))
theorem wc_X1_characterOf : Cond.code yX1_characterOf cX1_characterOf 3 (some .int) ∈ bz_tbl := bz_one 143 (by decide +kernel) rfl
theorem mv_X1_characterOf : bz_mv mX1_characterOf 2 := ⟨rfl, (by decide +kernel), wc_X1_characterOf, wi_BasisMoves_Partitions, (by decide +kernel), (by decide +kernel)⟩
theorem wn_X1_characterOf : Cond.instanceMethod yX1_characterOf ∈ bz_tbl := bz_one 142 (by decide +kernel) rfl
theorem wl_X1_characterOf : Cond.selects RX1 yX1_characterOf yX1_characterOf ∈ bz_tbl := bz_one 8 (by decide +kernel) rfl
theorem mi_X1_characterOf : bz_mi mX1_characterOf := ⟨wn_X1_characterOf, wl_X1_characterOf⟩
abbrev mX1_isAbove : bz_M := (yX1_isAbove, cX1_isAbove, RX1, 5, (some .boolean))
theorem wc_X1_isAbove : Cond.code yX1_isAbove cX1_isAbove 5 (some .boolean) ∈ bz_tbl := bz_one 276 (by decide +kernel) rfl
theorem mv_X1_isAbove : bz_mv mX1_isAbove 2 := ⟨rfl, (by decide +kernel), wc_X1_isAbove, wi_BasisMoves_Partitions, (by decide +kernel), (by decide +kernel)⟩
theorem wn_X1_isAbove : Cond.instanceMethod yX1_isAbove ∈ bz_tbl := bz_one 275 (by decide +kernel) rfl
theorem wl_X1_isAbove : Cond.selects RX1 yX1_isAbove yX1_isAbove ∈ bz_tbl := bz_one 9 (by decide +kernel) rfl
theorem mi_X1_isAbove : bz_mi mX1_isAbove := ⟨wn_X1_isAbove, wl_X1_isAbove⟩
abbrev mX1_fillColumn : bz_M := (yX1_fillColumn, cX1_fillColumn, RX1, 9, none)
theorem wc_X1_fillColumn : Cond.code yX1_fillColumn cX1_fillColumn 9 none ∈ bz_tbl := bz_one 124 (by decide +kernel) rfl
theorem mv_X1_fillColumn : bz_mv mX1_fillColumn 1 := ⟨rfl, (by decide +kernel), wc_X1_fillColumn, wi_BasisMoves_Partitions, (by decide +kernel), (by decide +kernel)⟩
theorem wn_X1_fillColumn : Cond.instanceMethod yX1_fillColumn ∈ bz_tbl := bz_one 123 (by decide +kernel) rfl
theorem wl_X1_fillColumn : Cond.selects RX1 yX1_fillColumn yX1_fillColumn ∈ bz_tbl := bz_one 4 (by decide +kernel) rfl
theorem mi_X1_fillColumn : bz_mi mX1_fillColumn := ⟨wn_X1_fillColumn, wl_X1_fillColumn⟩
abbrev mX1_isRowStrip : bz_M := (yX1_isRowStrip, cX1_isRowStrip, RX1, 4, (some .boolean))
theorem wc_X1_isRowStrip : Cond.code yX1_isRowStrip cX1_isRowStrip 4 (some .boolean) ∈ bz_tbl := bz_one 128 (by decide +kernel) rfl
theorem mv_X1_isRowStrip : bz_mv mX1_isRowStrip 2 := ⟨rfl, (by decide +kernel), wc_X1_isRowStrip, wi_BasisMoves_Partitions, (by decide +kernel), (by decide +kernel)⟩
theorem wn_X1_isRowStrip : Cond.instanceMethod yX1_isRowStrip ∈ bz_tbl := bz_one 127 (by decide +kernel) rfl
theorem wl_X1_isRowStrip : Cond.selects RX1 yX1_isRowStrip yX1_isRowStrip ∈ bz_tbl := bz_one 5 (by decide +kernel) rfl
theorem mi_X1_isRowStrip : bz_mi mX1_isRowStrip := ⟨wn_X1_isRowStrip, wl_X1_isRowStrip⟩
abbrev mX1_rimSign : bz_M := (yX1_rimSign, cX1_rimSign, RX1, 6, (some .int))
theorem wc_X1_rimSign : Cond.code yX1_rimSign cX1_rimSign 6 (some .int) ∈ bz_tbl := bz_one 136 (by decide +kernel) rfl
theorem mv_X1_rimSign : bz_mv mX1_rimSign 2 := ⟨rfl, (by decide +kernel), wc_X1_rimSign, wi_BasisMoves_Partitions, (by decide +kernel), (by decide +kernel)⟩
theorem wn_X1_rimSign : Cond.instanceMethod yX1_rimSign ∈ bz_tbl := bz_one 135 (by decide +kernel) rfl
theorem wl_X1_rimSign : Cond.selects RX1 yX1_rimSign yX1_rimSign ∈ bz_tbl := bz_one 7 (by decide +kernel) rfl
theorem mi_X1_rimSign : bz_mi mX1_rimSign := ⟨wn_X1_rimSign, wl_X1_rimSign⟩
abbrev mX2_init : bz_M := (yX2_init, cX2_init, RX2, 2, none)
theorem wc_X2_init : Cond.code yX2_init cX2_init 2 none ∈ bz_tbl := bz_one 201 (by decide +kernel) rfl
theorem mv_X2_init : bz_mv mX2_init 1 := ⟨rfl, (by decide +kernel), wc_X2_init, wi_BasisMoves_Work, (by decide +kernel), (by decide +kernel)⟩
abbrev mX2_scalarOf : bz_M := (yX2_scalarOf, cX2_scalarOf, RX2, 5, (some .long))
theorem wc_X2_scalarOf : Cond.code yX2_scalarOf cX2_scalarOf 5 (some .long) ∈ bz_tbl := bz_one 405 (by decide +kernel) rfl
theorem mv_X2_scalarOf : bz_mv mX2_scalarOf 2 := ⟨rfl, (by decide +kernel), wc_X2_scalarOf, wi_BasisMoves_Work, (by decide +kernel), (by decide +kernel)⟩
theorem ws_X2_scalarOf : Cond.static yX2_scalarOf ∈ bz_tbl := bz_one 404 (by decide +kernel) rfl
abbrev mX2_multiply : bz_M := (yX2_multiply, cX2_multiply, RX2, 5, none)
theorem wc_X2_multiply : Cond.code yX2_multiply cX2_multiply 5 none ∈ bz_tbl := bz_one 417 (by decide +kernel) rfl
theorem mv_X2_multiply : bz_mv mX2_multiply 3 := ⟨rfl, (by decide +kernel), wc_X2_multiply, wi_BasisMoves_Work, (by decide +kernel), (by decide +kernel)⟩
theorem wn_X2_multiply : Cond.instanceMethod yX2_multiply ∈ bz_tbl := bz_one 416 (by decide +kernel) rfl
theorem wl_X2_multiply : Cond.selects RX2 yX2_multiply yX2_multiply ∈ bz_tbl := bz_one 25 (by decide +kernel) rfl
theorem mi_X2_multiply : bz_mi mX2_multiply := ⟨wn_X2_multiply, wl_X2_multiply⟩
abbrev mX2_addJoined : bz_M := (yX2_addJoined, cX2_addJoined, RX2, 9, none)
theorem wc_X2_addJoined : Cond.code yX2_addJoined cX2_addJoined 9 none ∈ bz_tbl := bz_one 422 (by decide +kernel) rfl
theorem mv_X2_addJoined : bz_mv mX2_addJoined 4 := ⟨rfl, (by decide +kernel), wc_X2_addJoined, wi_BasisMoves_Work, (by decide +kernel), (by decide +kernel)⟩
theorem wn_X2_addJoined : Cond.instanceMethod yX2_addJoined ∈ bz_tbl := bz_one 421 (by decide +kernel) rfl
theorem wl_X2_addJoined : Cond.selects RX2 yX2_addJoined yX2_addJoined ∈ bz_tbl := bz_one 26 (by decide +kernel) rfl
theorem mi_X2_addJoined : bz_mi mX2_addJoined := ⟨wn_X2_addJoined, wl_X2_addJoined⟩
abbrev mX2_divideByCommon : bz_M := (yX2_divideByCommon, cX2_divideByCommon, RX2, 2, none)
theorem wc_X2_divideByCommon : Cond.code yX2_divideByCommon cX2_divideByCommon 2 none ∈ bz_tbl := bz_one 430 (by decide +kernel) rfl
theorem mv_X2_divideByCommon : bz_mv mX2_divideByCommon 1 := ⟨rfl, (by decide +kernel), wc_X2_divideByCommon, wi_BasisMoves_Work, (by decide +kernel), (by decide +kernel)⟩
theorem ws_X2_divideByCommon : Cond.static yX2_divideByCommon ∈ bz_tbl := bz_one 429 (by decide +kernel) rfl
abbrev mX2_scalarWithPower : bz_M := (yX2_scalarWithPower, cX2_scalarWithPower, RX2, 3, (some .long))
theorem wc_X2_scalarWithPower : Cond.code yX2_scalarWithPower cX2_scalarWithPower 3 (some .long) ∈ bz_tbl := bz_one 456 (by decide +kernel) rfl
theorem mv_X2_scalarWithPower : bz_mv mX2_scalarWithPower 2 := ⟨rfl, (by decide +kernel), wc_X2_scalarWithPower, wi_BasisMoves_Work, (by decide +kernel), (by decide +kernel)⟩
theorem wn_X2_scalarWithPower : Cond.instanceMethod yX2_scalarWithPower ∈ bz_tbl := bz_one 455 (by decide +kernel) rfl
theorem wl_X2_scalarWithPower : Cond.selects RX2 yX2_scalarWithPower yX2_scalarWithPower ∈ bz_tbl := bz_one 31 (by decide +kernel) rfl
theorem mi_X2_scalarWithPower : bz_mi mX2_scalarWithPower := ⟨wn_X2_scalarWithPower, wl_X2_scalarWithPower⟩
abbrev mX2_stripOff : bz_M := (yX2_stripOff, cX2_stripOff, RX2, 8, none)
theorem wc_X2_stripOff : Cond.code yX2_stripOff cX2_stripOff 8 none ∈ bz_tbl := bz_one 448 (by decide +kernel) rfl
theorem mv_X2_stripOff : bz_mv mX2_stripOff 3 := ⟨rfl, (by decide +kernel), wc_X2_stripOff, wi_BasisMoves_Work, (by decide +kernel), (by decide +kernel)⟩
theorem wn_X2_stripOff : Cond.instanceMethod yX2_stripOff ∈ bz_tbl := bz_one 447 (by decide +kernel) rfl
theorem wl_X2_stripOff : Cond.selects RX2 yX2_stripOff yX2_stripOff ∈ bz_tbl := bz_one 29 (by decide +kernel) rfl
theorem mi_X2_stripOff : bz_mi mX2_stripOff := ⟨wn_X2_stripOff, wl_X2_stripOff⟩
abbrev mX2_scalarWithProduct : bz_M := (yX2_scalarWithProduct, cX2_scalarWithProduct, RX2, 9, (some .long))
theorem wc_X2_scalarWithProduct : Cond.code yX2_scalarWithProduct cX2_scalarWithProduct 9 (some .long) ∈ bz_tbl := bz_one 452 (by decide +kernel) rfl
theorem mv_X2_scalarWithProduct : bz_mv mX2_scalarWithProduct 3 := ⟨rfl, (by decide +kernel), wc_X2_scalarWithProduct, wi_BasisMoves_Work, (by decide +kernel), (by decide +kernel)⟩
theorem wn_X2_scalarWithProduct : Cond.instanceMethod yX2_scalarWithProduct ∈ bz_tbl := bz_one 451 (by decide +kernel) rfl
theorem wl_X2_scalarWithProduct : Cond.selects RX2 yX2_scalarWithProduct yX2_scalarWithProduct ∈ bz_tbl := bz_one 30 (by decide +kernel) rfl
theorem mi_X2_scalarWithProduct : bz_mi mX2_scalarWithProduct := ⟨wn_X2_scalarWithProduct, wl_X2_scalarWithProduct⟩
abbrev mX2_meetWith : bz_M := (yX2_meetWith, cX2_meetWith, RX2, 5, none)
theorem wc_X2_meetWith : Cond.code yX2_meetWith cX2_meetWith 5 none ∈ bz_tbl := bz_one 464 (by decide +kernel) rfl
theorem mv_X2_meetWith : bz_mv mX2_meetWith 3 := ⟨rfl, (by decide +kernel), wc_X2_meetWith, wi_BasisMoves_Work, (by decide +kernel), (by decide +kernel)⟩
theorem wn_X2_meetWith : Cond.instanceMethod yX2_meetWith ∈ bz_tbl := bz_one 463 (by decide +kernel) rfl
theorem wl_X2_meetWith : Cond.selects RX2 yX2_meetWith yX2_meetWith ∈ bz_tbl := bz_one 32 (by decide +kernel) rfl
theorem mi_X2_meetWith : bz_mi mX2_meetWith := ⟨wn_X2_meetWith, wl_X2_meetWith⟩
abbrev mX2_plugWith : bz_M := (yX2_plugWith, cX2_plugWith, RX2, 6, none)
theorem wc_X2_plugWith : Cond.code yX2_plugWith cX2_plugWith 6 none ∈ bz_tbl := bz_one 472 (by decide +kernel) rfl
theorem mv_X2_plugWith : bz_mv mX2_plugWith 3 := ⟨rfl, (by decide +kernel), wc_X2_plugWith, wi_BasisMoves_Work, (by decide +kernel), (by decide +kernel)⟩
theorem wn_X2_plugWith : Cond.instanceMethod yX2_plugWith ∈ bz_tbl := bz_one 471 (by decide +kernel) rfl
theorem wl_X2_plugWith : Cond.selects RX2 yX2_plugWith yX2_plugWith ∈ bz_tbl := bz_one 33 (by decide +kernel) rfl
theorem mi_X2_plugWith : bz_mi mX2_plugWith := ⟨wn_X2_plugWith, wl_X2_plugWith⟩
abbrev mX2_plugPower : bz_M := (yX2_plugPower, cX2_plugPower, RX2, 4, none)
theorem wc_X2_plugPower : Cond.code yX2_plugPower cX2_plugPower 4 none ∈ bz_tbl := bz_one 484 (by decide +kernel) rfl
theorem mv_X2_plugPower : bz_mv mX2_plugPower 1 := ⟨rfl, (by decide +kernel), wc_X2_plugPower, wi_BasisMoves_Work, (by decide +kernel), (by decide +kernel)⟩
theorem wn_X2_plugPower : Cond.instanceMethod yX2_plugPower ∈ bz_tbl := bz_one 483 (by decide +kernel) rfl
theorem wl_X2_plugPower : Cond.selects RX2 yX2_plugPower yX2_plugPower ∈ bz_tbl := bz_one 36 (by decide +kernel) rfl
theorem mi_X2_plugPower : bz_mi mX2_plugPower := ⟨wn_X2_plugPower, wl_X2_plugPower⟩
abbrev mX2_stretch : bz_M := (yX2_stretch, cX2_stretch, RX2, 6, none)
theorem wc_X2_stretch : Cond.code yX2_stretch cX2_stretch 6 none ∈ bz_tbl := bz_one 476 (by decide +kernel) rfl
theorem mv_X2_stretch : bz_mv mX2_stretch 3 := ⟨rfl, (by decide +kernel), wc_X2_stretch, wi_BasisMoves_Work, (by decide +kernel), (by decide +kernel)⟩
theorem wn_X2_stretch : Cond.instanceMethod yX2_stretch ∈ bz_tbl := bz_one 475 (by decide +kernel) rfl
theorem wl_X2_stretch : Cond.selects RX2 yX2_stretch yX2_stretch ∈ bz_tbl := bz_one 34 (by decide +kernel) rfl
theorem mi_X2_stretch : bz_mi mX2_stretch := ⟨wn_X2_stretch, wl_X2_stretch⟩
abbrev mX2_valueAt : bz_M := (yX2_valueAt, cX2_valueAt, RX2, 15, (some .long))
theorem wc_X2_valueAt : Cond.code yX2_valueAt cX2_valueAt 15 (some .long) ∈ bz_tbl := bz_one 392 (by decide +kernel) rfl
theorem mv_X2_valueAt : bz_mv mX2_valueAt 4 := ⟨rfl, (by decide +kernel), wc_X2_valueAt, wi_BasisMoves_Work, (by decide +kernel), (by decide +kernel)⟩
theorem wn_X2_valueAt : Cond.instanceMethod yX2_valueAt ∈ bz_tbl := bz_one 391 (by decide +kernel) rfl
theorem wl_X2_valueAt : Cond.selects RX2 yX2_valueAt yX2_valueAt ∈ bz_tbl := bz_one 23 (by decide +kernel) rfl
theorem mi_X2_valueAt : bz_mi mX2_valueAt := ⟨wn_X2_valueAt, wl_X2_valueAt⟩
abbrev mX2_powerOf : bz_M := (yX2_powerOf, cX2_powerOf, RX2, 6, (some .long))
theorem wc_X2_powerOf : Cond.code yX2_powerOf cX2_powerOf 6 (some .long) ∈ bz_tbl := bz_one 398 (by decide +kernel) rfl
theorem mv_X2_powerOf : bz_mv mX2_powerOf 2 := ⟨rfl, (by decide +kernel), wc_X2_powerOf, wi_BasisMoves_Work, (by decide +kernel), (by decide +kernel)⟩
theorem ws_X2_powerOf : Cond.static yX2_powerOf ∈ bz_tbl := bz_one 397 (by decide +kernel) rfl
abbrev mX3_init : bz_M := (yX3_init, cX3_init, RX3, 1, none)
theorem wc_X3_init : Cond.code yX3_init cX3_init 1 none ∈ bz_tbl := bz_one 76 (by decide +kernel) rfl
theorem mv_X3_init : bz_mv mX3_init 0 := ⟨rfl, (by decide +kernel), wc_X3_init, wi_BasisMoves, (by decide +kernel), (by decide +kernel)⟩
abbrev mX3_part : bz_M := (yX3_part, cX3_part, RX3, 3, (some .int))
theorem wc_X3_part : Cond.code yX3_part cX3_part 3 (some .int) ∈ bz_tbl := bz_one 251 (by decide +kernel) rfl
theorem mv_X3_part : bz_mv mX3_part 2 := ⟨rfl, (by decide +kernel), wc_X3_part, wi_BasisMoves, (by decide +kernel), (by decide +kernel)⟩
theorem wn_X3_part : Cond.instanceMethod yX3_part ∈ bz_tbl := bz_one 249 (by decide +kernel) rfl
theorem wl_X3_part : Cond.selects RX3 yX3_part yX3_part ∈ bz_tbl := bz_one 250 (by decide +kernel) rfl
theorem mi_X3_part : bz_mi mX3_part := ⟨wn_X3_part, wl_X3_part⟩
abbrev mX3_about : bz_M := (yX3_about, cX3_about, RX3, 3, (some .int))
theorem wc_X3_about : Cond.code yX3_about cX3_about 3 (some .int) ∈ bz_tbl := bz_one 257 (by decide +kernel) rfl
theorem mv_X3_about : bz_mv mX3_about 2 := ⟨rfl, (by decide +kernel), wc_X3_about, wi_BasisMoves, (by decide +kernel), (by decide +kernel)⟩
theorem wn_X3_about : Cond.instanceMethod yX3_about ∈ bz_tbl := bz_one 255 (by decide +kernel) rfl
theorem wl_X3_about : Cond.selects RX3 yX3_about yX3_about ∈ bz_tbl := bz_one 256 (by decide +kernel) rfl
theorem mi_X3_about : bz_mi mX3_about := ⟨wn_X3_about, wl_X3_about⟩
abbrev mX3_kostka : bz_M := (yX3_kostka, cX3_kostka, RX3, 3, (some .int))
theorem wc_X3_kostka : Cond.code yX3_kostka cX3_kostka 3 (some .int) ∈ bz_tbl := bz_one 263 (by decide +kernel) rfl
theorem mv_X3_kostka : bz_mv mX3_kostka 2 := ⟨rfl, (by decide +kernel), wc_X3_kostka, wi_BasisMoves, (by decide +kernel), (by decide +kernel)⟩
theorem wn_X3_kostka : Cond.instanceMethod yX3_kostka ∈ bz_tbl := bz_one 261 (by decide +kernel) rfl
theorem wl_X3_kostka : Cond.selects RX3 yX3_kostka yX3_kostka ∈ bz_tbl := bz_one 262 (by decide +kernel) rfl
theorem mi_X3_kostka : bz_mi mX3_kostka := ⟨wn_X3_kostka, wl_X3_kostka⟩
abbrev mX3_character : bz_M := (yX3_character, cX3_character, RX3, 3, (some .int))
theorem wc_X3_character : Cond.code yX3_character cX3_character 3 (some .int) ∈ bz_tbl := bz_one 267 (by decide +kernel) rfl
theorem mv_X3_character : bz_mv mX3_character 2 := ⟨rfl, (by decide +kernel), wc_X3_character, wi_BasisMoves, (by decide +kernel), (by decide +kernel)⟩
theorem wn_X3_character : Cond.instanceMethod yX3_character ∈ bz_tbl := bz_one 265 (by decide +kernel) rfl
theorem wl_X3_character : Cond.selects RX3 yX3_character yX3_character ∈ bz_tbl := bz_one 266 (by decide +kernel) rfl
theorem mi_X3_character : bz_mi mX3_character := ⟨wn_X3_character, wl_X3_character⟩
abbrev mX3_above : bz_M := (yX3_above, cX3_above, RX3, 3, (some .int))
theorem wc_X3_above : Cond.code yX3_above cX3_above 3 (some .int) ∈ bz_tbl := bz_one 272 (by decide +kernel) rfl
theorem mv_X3_above : bz_mv mX3_above 2 := ⟨rfl, (by decide +kernel), wc_X3_above, wi_BasisMoves, (by decide +kernel), (by decide +kernel)⟩
theorem wn_X3_above : Cond.instanceMethod yX3_above ∈ bz_tbl := bz_one 270 (by decide +kernel) rfl
theorem wl_X3_above : Cond.selects RX3 yX3_above yX3_above ∈ bz_tbl := bz_one 271 (by decide +kernel) rfl
theorem mi_X3_above : bz_mi mX3_above := ⟨wn_X3_above, wl_X3_above⟩
abbrev mX3_put : bz_M := (yX3_put, cX3_put, RX3, 5, (some .int))
theorem wc_X3_put : Cond.code yX3_put cX3_put 5 (some .int) ∈ bz_tbl := bz_one 280 (by decide +kernel) rfl
theorem mv_X3_put : bz_mv mX3_put 4 := ⟨rfl, (by decide +kernel), wc_X3_put, wi_BasisMoves, (by decide +kernel), (by decide +kernel)⟩
theorem wn_X3_put : Cond.instanceMethod yX3_put ∈ bz_tbl := bz_one 278 (by decide +kernel) rfl
theorem wl_X3_put : Cond.selects RX3 yX3_put yX3_put ∈ bz_tbl := bz_one 279 (by decide +kernel) rfl
theorem mi_X3_put : bz_mi mX3_put := ⟨wn_X3_put, wl_X3_put⟩
abbrev mX3_add : bz_M := (yX3_add, cX3_add, RX3, 5, (some .int))
theorem wc_X3_add : Cond.code yX3_add cX3_add 5 (some .int) ∈ bz_tbl := bz_one 342 (by decide +kernel) rfl
theorem mv_X3_add : bz_mv mX3_add 3 := ⟨rfl, (by decide +kernel), wc_X3_add, wi_BasisMoves, (by decide +kernel), (by decide +kernel)⟩
theorem wn_X3_add : Cond.instanceMethod yX3_add ∈ bz_tbl := bz_one 340 (by decide +kernel) rfl
theorem wl_X3_add : Cond.selects RX3 yX3_add yX3_add ∈ bz_tbl := bz_one 341 (by decide +kernel) rfl
theorem mi_X3_add : bz_mi mX3_add := ⟨wn_X3_add, wl_X3_add⟩
abbrev mX3_degree : bz_M := (yX3_degree, cX3_degree, RX3, 2, (some .int))
theorem wc_X3_degree : Cond.code yX3_degree cX3_degree 2 (some .int) ∈ bz_tbl := bz_one 346 (by decide +kernel) rfl
theorem mv_X3_degree : bz_mv mX3_degree 1 := ⟨rfl, (by decide +kernel), wc_X3_degree, wi_BasisMoves, (by decide +kernel), (by decide +kernel)⟩
theorem wn_X3_degree : Cond.instanceMethod yX3_degree ∈ bz_tbl := bz_one 344 (by decide +kernel) rfl
theorem wl_X3_degree : Cond.selects RX3 yX3_degree yX3_degree ∈ bz_tbl := bz_one 345 (by decide +kernel) rfl
theorem mi_X3_degree : bz_mi mX3_degree := ⟨wn_X3_degree, wl_X3_degree⟩
abbrev mX3_coefficient : bz_M := (yX3_coefficient, cX3_coefficient, RX3, 9, (some .long))
theorem wc_X3_coefficient : Cond.code yX3_coefficient cX3_coefficient 9 (some .long) ∈ bz_tbl := bz_one 354 (by decide +kernel) rfl
theorem mv_X3_coefficient : bz_mv mX3_coefficient 4 := ⟨rfl, (by decide +kernel), wc_X3_coefficient, wi_BasisMoves, (by decide +kernel), (by decide +kernel)⟩
theorem wn_X3_coefficient : Cond.instanceMethod yX3_coefficient ∈ bz_tbl := bz_one 352 (by decide +kernel) rfl
theorem wl_X3_coefficient : Cond.selects RX3 yX3_coefficient yX3_coefficient ∈ bz_tbl := bz_one 353 (by decide +kernel) rfl
theorem mi_X3_coefficient : bz_mi mX3_coefficient := ⟨wn_X3_coefficient, wl_X3_coefficient⟩
abbrev mX3_next : bz_M := (yX3_next, cX3_next, RX3, 5, (some .int))
theorem wc_X3_next : Cond.code yX3_next cX3_next 5 (some .int) ∈ bz_tbl := bz_one 383 (by decide +kernel) rfl
theorem mv_X3_next : bz_mv mX3_next 3 := ⟨rfl, (by decide +kernel), wc_X3_next, wi_BasisMoves, (by decide +kernel), (by decide +kernel)⟩
theorem wn_X3_next : Cond.instanceMethod yX3_next ∈ bz_tbl := bz_one 381 (by decide +kernel) rfl
theorem wl_X3_next : Cond.selects RX3 yX3_next yX3_next ∈ bz_tbl := bz_one 382 (by decide +kernel) rfl
theorem mi_X3_next : bz_mi mX3_next := ⟨wn_X3_next, wl_X3_next⟩
abbrev mX3_value : bz_M := (yX3_value, cX3_value, RX3, 5, (some .long))
theorem wc_X3_value : Cond.code yX3_value cX3_value 5 (some .long) ∈ bz_tbl := bz_one 387 (by decide +kernel) rfl
theorem mv_X3_value : bz_mv mX3_value 4 := ⟨rfl, (by decide +kernel), wc_X3_value, wi_BasisMoves, (by decide +kernel), (by decide +kernel)⟩
theorem wn_X3_value : Cond.instanceMethod yX3_value ∈ bz_tbl := bz_one 385 (by decide +kernel) rfl
theorem wl_X3_value : Cond.selects RX3 yX3_value yX3_value ∈ bz_tbl := bz_one 386 (by decide +kernel) rfl
theorem mi_X3_value : bz_mi mX3_value := ⟨wn_X3_value, wl_X3_value⟩
abbrev mX3_scalar : bz_M := (yX3_scalar, cX3_scalar, RX3, 3, (some .long))
theorem wc_X3_scalar : Cond.code yX3_scalar cX3_scalar 3 (some .long) ∈ bz_tbl := bz_one 402 (by decide +kernel) rfl
theorem mv_X3_scalar : bz_mv mX3_scalar 2 := ⟨rfl, (by decide +kernel), wc_X3_scalar, wi_BasisMoves, (by decide +kernel), (by decide +kernel)⟩
theorem wn_X3_scalar : Cond.instanceMethod yX3_scalar ∈ bz_tbl := bz_one 400 (by decide +kernel) rfl
theorem wl_X3_scalar : Cond.selects RX3 yX3_scalar yX3_scalar ∈ bz_tbl := bz_one 401 (by decide +kernel) rfl
theorem mi_X3_scalar : bz_mi mX3_scalar := ⟨wn_X3_scalar, wl_X3_scalar⟩
abbrev mX3_times : bz_M := (yX3_times, cX3_times, RX3, 6, (some .int))
theorem wc_X3_times : Cond.code yX3_times cX3_times 6 (some .int) ∈ bz_tbl := bz_one 409 (by decide +kernel) rfl
theorem mv_X3_times : bz_mv mX3_times 3 := ⟨rfl, (by decide +kernel), wc_X3_times, wi_BasisMoves, (by decide +kernel), (by decide +kernel)⟩
theorem wn_X3_times : Cond.instanceMethod yX3_times ∈ bz_tbl := bz_one 407 (by decide +kernel) rfl
theorem wl_X3_times : Cond.selects RX3 yX3_times yX3_times ∈ bz_tbl := bz_one 408 (by decide +kernel) rfl
theorem mi_X3_times : bz_mi mX3_times := ⟨wn_X3_times, wl_X3_times⟩
abbrev mX3_turn : bz_M := (yX3_turn, cX3_turn, RX3, 3, (some .int))
theorem wc_X3_turn : Cond.code yX3_turn cX3_turn 3 (some .int) ∈ bz_tbl := bz_one 440 (by decide +kernel) rfl
theorem mv_X3_turn : bz_mv mX3_turn 2 := ⟨rfl, (by decide +kernel), wc_X3_turn, wi_BasisMoves, (by decide +kernel), (by decide +kernel)⟩
theorem wn_X3_turn : Cond.instanceMethod yX3_turn ∈ bz_tbl := bz_one 438 (by decide +kernel) rfl
theorem wl_X3_turn : Cond.selects RX3 yX3_turn yX3_turn ∈ bz_tbl := bz_one 439 (by decide +kernel) rfl
theorem mi_X3_turn : bz_mi mX3_turn := ⟨wn_X3_turn, wl_X3_turn⟩
abbrev mX3_strip : bz_M := (yX3_strip, cX3_strip, RX3, 4, (some .int))
theorem wc_X3_strip : Cond.code yX3_strip cX3_strip 4 (some .int) ∈ bz_tbl := bz_one 444 (by decide +kernel) rfl
theorem mv_X3_strip : bz_mv mX3_strip 3 := ⟨rfl, (by decide +kernel), wc_X3_strip, wi_BasisMoves, (by decide +kernel), (by decide +kernel)⟩
theorem wn_X3_strip : Cond.instanceMethod yX3_strip ∈ bz_tbl := bz_one 442 (by decide +kernel) rfl
theorem wl_X3_strip : Cond.selects RX3 yX3_strip yX3_strip ∈ bz_tbl := bz_one 443 (by decide +kernel) rfl
theorem mi_X3_strip : bz_mi mX3_strip := ⟨wn_X3_strip, wl_X3_strip⟩
abbrev mX3_meet : bz_M := (yX3_meet, cX3_meet, RX3, 4, (some .int))
theorem wc_X3_meet : Cond.code yX3_meet cX3_meet 4 (some .int) ∈ bz_tbl := bz_one 460 (by decide +kernel) rfl
theorem mv_X3_meet : bz_mv mX3_meet 3 := ⟨rfl, (by decide +kernel), wc_X3_meet, wi_BasisMoves, (by decide +kernel), (by decide +kernel)⟩
theorem wn_X3_meet : Cond.instanceMethod yX3_meet ∈ bz_tbl := bz_one 458 (by decide +kernel) rfl
theorem wl_X3_meet : Cond.selects RX3 yX3_meet yX3_meet ∈ bz_tbl := bz_one 459 (by decide +kernel) rfl
theorem mi_X3_meet : bz_mi mX3_meet := ⟨wn_X3_meet, wl_X3_meet⟩
abbrev mX3_plug : bz_M := (yX3_plug, cX3_plug, RX3, 6, (some .int))
theorem wc_X3_plug : Cond.code yX3_plug cX3_plug 6 (some .int) ∈ bz_tbl := bz_one 468 (by decide +kernel) rfl
theorem mv_X3_plug : bz_mv mX3_plug 3 := ⟨rfl, (by decide +kernel), wc_X3_plug, wi_BasisMoves, (by decide +kernel), (by decide +kernel)⟩
theorem wn_X3_plug : Cond.instanceMethod yX3_plug ∈ bz_tbl := bz_one 466 (by decide +kernel) rfl
theorem wl_X3_plug : Cond.selects RX3 yX3_plug yX3_plug ∈ bz_tbl := bz_one 467 (by decide +kernel) rfl
theorem mi_X3_plug : bz_mi mX3_plug := ⟨wn_X3_plug, wl_X3_plug⟩
abbrev mX3_image : bz_M := (yX3_image, cX3_image, RX3, 3, (some .int))
theorem wc_X3_image : Cond.code yX3_image cX3_image 3 (some .int) ∈ bz_tbl := bz_one 491 (by decide +kernel) rfl
theorem mv_X3_image : bz_mv mX3_image 1 := ⟨rfl, (by decide +kernel), wc_X3_image, wi_BasisMoves, (by decide +kernel), (by decide +kernel)⟩
theorem wn_X3_image : Cond.instanceMethod yX3_image ∈ bz_tbl := bz_one 489 (by decide +kernel) rfl
theorem wl_X3_image : Cond.selects RX3 yX3_image yX3_image ∈ bz_tbl := bz_one 490 (by decide +kernel) rfl
theorem mi_X3_image : bz_mi mX3_image := ⟨wn_X3_image, wl_X3_image⟩
abbrev mX3_restore : bz_M := (yX3_restore, cX3_restore, RX3, 3, (some .int))
theorem wc_X3_restore : Cond.code yX3_restore cX3_restore 3 (some .int) ∈ bz_tbl := bz_one 495 (by decide +kernel) rfl
theorem mv_X3_restore : bz_mv mX3_restore 1 := ⟨rfl, (by decide +kernel), wc_X3_restore, wi_BasisMoves, (by decide +kernel), (by decide +kernel)⟩
theorem wn_X3_restore : Cond.instanceMethod yX3_restore ∈ bz_tbl := bz_one 493 (by decide +kernel) rfl
theorem wl_X3_restore : Cond.selects RX3 yX3_restore yX3_restore ∈ bz_tbl := bz_one 494 (by decide +kernel) rfl
theorem mi_X3_restore : bz_mi mX3_restore := ⟨wn_X3_restore, wl_X3_restore⟩
abbrev mX3_count : bz_M := (yX3_count, cX3_count, RX3, 2, (some .int))
theorem wc_X3_count : Cond.code yX3_count cX3_count 2 (some .int) ∈ bz_tbl := bz_one 499 (by decide +kernel) rfl
theorem mv_X3_count : bz_mv mX3_count 1 := ⟨rfl, (by decide +kernel), wc_X3_count, wi_BasisMoves, (by decide +kernel), (by decide +kernel)⟩
theorem wn_X3_count : Cond.instanceMethod yX3_count ∈ bz_tbl := bz_one 497 (by decide +kernel) rfl
theorem wl_X3_count : Cond.selects RX3 yX3_count yX3_count ∈ bz_tbl := bz_one 498 (by decide +kernel) rfl
theorem mi_X3_count : bz_mi mX3_count := ⟨wn_X3_count, wl_X3_count⟩
abbrev mX3_isSlot : bz_M := (yX3_isSlot, cX3_isSlot, RX3, 1, (some .boolean))
theorem wc_X3_isSlot : Cond.code yX3_isSlot cX3_isSlot 1 (some .boolean) ∈ bz_tbl := bz_one 283 (by decide +kernel) rfl
theorem mv_X3_isSlot : bz_mv mX3_isSlot 1 := ⟨rfl, (by decide +kernel), wc_X3_isSlot, wi_BasisMoves, (by decide +kernel), (by decide +kernel)⟩
theorem ws_X3_isSlot : Cond.static yX3_isSlot ∈ bz_tbl := bz_one 282 (by decide +kernel) rfl
abbrev mX3_isBase : bz_M := (yX3_isBase, cX3_isBase, RX3, 1, (some .boolean))
theorem wc_X3_isBase : Cond.code yX3_isBase cX3_isBase 1 (some .boolean) ∈ bz_tbl := bz_one 286 (by decide +kernel) rfl
theorem mv_X3_isBase : bz_mv mX3_isBase 1 := ⟨rfl, (by decide +kernel), wc_X3_isBase, wi_BasisMoves, (by decide +kernel), (by decide +kernel)⟩
theorem ws_X3_isBase : Cond.static yX3_isBase ∈ bz_tbl := bz_one 285 (by decide +kernel) rfl
abbrev mX3_isPartition : bz_M := (yX3_isPartition, cX3_isPartition, RX3, 1, (some .boolean))
theorem wc_X3_isPartition : Cond.code yX3_isPartition cX3_isPartition 1 (some .boolean) ∈ bz_tbl := bz_one 96 (by decide +kernel) rfl
theorem mv_X3_isPartition : bz_mv mX3_isPartition 1 := ⟨rfl, (by decide +kernel), wc_X3_isPartition, wi_BasisMoves, (by decide +kernel), (by decide +kernel)⟩
theorem ws_X3_isPartition : Cond.static yX3_isPartition ∈ bz_tbl := bz_one 95 (by decide +kernel) rfl
abbrev mX3_isWithin : bz_M := (yX3_isWithin, cX3_isWithin, RX3, 4, (some .boolean))
theorem wc_X3_isWithin : Cond.code yX3_isWithin cX3_isWithin 4 (some .boolean) ∈ bz_tbl := bz_one 290 (by decide +kernel) rfl
theorem mv_X3_isWithin : bz_mv mX3_isWithin 2 := ⟨rfl, (by decide +kernel), wc_X3_isWithin, wi_BasisMoves, (by decide +kernel), (by decide +kernel)⟩
theorem ws_X3_isWithin : Cond.static yX3_isWithin ∈ bz_tbl := bz_one 289 (by decide +kernel) rfl
abbrev mX3_areWithin : bz_M := (yX3_areWithin, cX3_areWithin, RX3, 8, (some .boolean))
theorem wc_X3_areWithin : Cond.code yX3_areWithin cX3_areWithin 8 (some .boolean) ∈ bz_tbl := bz_one 337 (by decide +kernel) rfl
theorem mv_X3_areWithin : bz_mv mX3_areWithin 2 := ⟨rfl, (by decide +kernel), wc_X3_areWithin, wi_BasisMoves, (by decide +kernel), (by decide +kernel)⟩
theorem ws_X3_areWithin : Cond.static yX3_areWithin ∈ bz_tbl := bz_one 336 (by decide +kernel) rfl
abbrev mX3_degreeOf : bz_M := (yX3_degreeOf, cX3_degreeOf, RX3, 3, (some .int))
theorem wc_X3_degreeOf : Cond.code yX3_degreeOf cX3_degreeOf 3 (some .int) ∈ bz_tbl := bz_one 350 (by decide +kernel) rfl
theorem mv_X3_degreeOf : bz_mv mX3_degreeOf 1 := ⟨rfl, (by decide +kernel), wc_X3_degreeOf, wi_BasisMoves, (by decide +kernel), (by decide +kernel)⟩
theorem wn_X3_degreeOf : Cond.instanceMethod yX3_degreeOf ∈ bz_tbl := bz_one 349 (by decide +kernel) rfl
theorem wl_X3_degreeOf : Cond.selects RX3 yX3_degreeOf yX3_degreeOf ∈ bz_tbl := bz_one 18 (by decide +kernel) rfl
theorem mi_X3_degreeOf : bz_mi mX3_degreeOf := ⟨wn_X3_degreeOf, wl_X3_degreeOf⟩
abbrev mX3_filledSlots : bz_M := (yX3_filledSlots, cX3_filledSlots, RX3, 3, (some .int))
theorem wc_X3_filledSlots : Cond.code yX3_filledSlots cX3_filledSlots 3 (some .int) ∈ bz_tbl := bz_one 503 (by decide +kernel) rfl
theorem mv_X3_filledSlots : bz_mv mX3_filledSlots 0 := ⟨rfl, (by decide +kernel), wc_X3_filledSlots, wi_BasisMoves, (by decide +kernel), (by decide +kernel)⟩
theorem wn_X3_filledSlots : Cond.instanceMethod yX3_filledSlots ∈ bz_tbl := bz_one 502 (by decide +kernel) rfl
theorem wl_X3_filledSlots : Cond.selects RX3 yX3_filledSlots yX3_filledSlots ∈ bz_tbl := bz_one 37 (by decide +kernel) rfl
theorem mi_X3_filledSlots : bz_mi mX3_filledSlots := ⟨wn_X3_filledSlots, wl_X3_filledSlots⟩
abbrev mX3_readPowers : bz_M := (yX3_readPowers, cX3_readPowers, RX3, 3, none)
theorem wc_X3_readPowers : Cond.code yX3_readPowers cX3_readPowers 3 none ∈ bz_tbl := bz_one 413 (by decide +kernel) rfl
theorem mv_X3_readPowers : bz_mv mX3_readPowers 2 := ⟨rfl, (by decide +kernel), wc_X3_readPowers, wi_BasisMoves, (by decide +kernel), (by decide +kernel)⟩
theorem wn_X3_readPowers : Cond.instanceMethod yX3_readPowers ∈ bz_tbl := bz_one 412 (by decide +kernel) rfl
theorem wl_X3_readPowers : Cond.selects RX3 yX3_readPowers yX3_readPowers ∈ bz_tbl := bz_one 24 (by decide +kernel) rfl
theorem mi_X3_readPowers : bz_mi mX3_readPowers := ⟨wn_X3_readPowers, wl_X3_readPowers⟩
abbrev mX3_holdPowers : bz_M := (yX3_holdPowers, cX3_holdPowers, RX3, 2, (some .int))
theorem wc_X3_holdPowers : Cond.code yX3_holdPowers cX3_holdPowers 2 (some .int) ∈ bz_tbl := bz_one 435 (by decide +kernel) rfl
theorem mv_X3_holdPowers : bz_mv mX3_holdPowers 1 := ⟨rfl, (by decide +kernel), wc_X3_holdPowers, wi_BasisMoves, (by decide +kernel), (by decide +kernel)⟩
theorem wn_X3_holdPowers : Cond.instanceMethod yX3_holdPowers ∈ bz_tbl := bz_one 434 (by decide +kernel) rfl
theorem wl_X3_holdPowers : Cond.selects RX3 yX3_holdPowers yX3_holdPowers ∈ bz_tbl := bz_one 28 (by decide +kernel) rfl
theorem mi_X3_holdPowers : bz_mi mX3_holdPowers := ⟨wn_X3_holdPowers, wl_X3_holdPowers⟩
abbrev mX3_hold : bz_M := (yX3_hold, cX3_hold, RX3, 2, (some .int))
theorem wc_X3_hold : Cond.code yX3_hold cX3_hold 2 (some .int) ∈ bz_tbl := bz_one 333 (by decide +kernel) rfl
theorem mv_X3_hold : bz_mv mX3_hold 1 := ⟨rfl, (by decide +kernel), wc_X3_hold, wi_BasisMoves, (by decide +kernel), (by decide +kernel)⟩
theorem wn_X3_hold : Cond.instanceMethod yX3_hold ∈ bz_tbl := bz_one 332 (by decide +kernel) rfl
theorem wl_X3_hold : Cond.selects RX3 yX3_hold yX3_hold ∈ bz_tbl := bz_one 17 (by decide +kernel) rfl
theorem mi_X3_hold : bz_mi mX3_hold := ⟨wn_X3_hold, wl_X3_hold⟩
abbrev mX3_commonDivisor : bz_M := (yX3_commonDivisor, cX3_commonDivisor, RX3, 11, (some .long))
theorem wc_X3_commonDivisor : Cond.code yX3_commonDivisor cX3_commonDivisor 11 (some .long) ∈ bz_tbl := bz_one 376 (by decide +kernel) rfl
theorem mv_X3_commonDivisor : bz_mv mX3_commonDivisor 2 := ⟨rfl, (by decide +kernel), wc_X3_commonDivisor, wi_BasisMoves, (by decide +kernel), (by decide +kernel)⟩
theorem ws_X3_commonDivisor : Cond.static yX3_commonDivisor ∈ bz_tbl := bz_one 375 (by decide +kernel) rfl
abbrev mX4_init : bz_M := (yX4_init, cX4_init, RX4, 4, none)
theorem wc_X4_init : Cond.code yX4_init cX4_init 4 none ∈ bz_tbl := bz_one 509 (by decide +kernel) rfl
theorem mv_X4_init : bz_mv mX4_init 0 := ⟨rfl, (by decide +kernel), wc_X4_init, wi_BasisMovesModel, (by decide +kernel), (by decide +kernel)⟩
abbrev mX4_figure : bz_M := (yX4_figure, cX4_figure, RX4, 4, (some .int))
theorem wc_X4_figure : Cond.code yX4_figure cX4_figure 4 (some .int) ∈ bz_tbl := bz_one 521 (by decide +kernel) rfl
theorem mv_X4_figure : bz_mv mX4_figure 2 := ⟨rfl, (by decide +kernel), wc_X4_figure, wi_BasisMovesModel, (by decide +kernel), (by decide +kernel)⟩
theorem ws_X4_figure : Cond.static yX4_figure ∈ bz_tbl := bz_one 520 (by decide +kernel) rfl
abbrev mX4_isFalling : bz_M := (yX4_isFalling, cX4_isFalling, RX4, 8, (some .boolean))
theorem wc_X4_isFalling : Cond.code yX4_isFalling cX4_isFalling 8 (some .boolean) ∈ bz_tbl := bz_one 514 (by decide +kernel) rfl
theorem mv_X4_isFalling : bz_mv mX4_isFalling 2 := ⟨rfl, (by decide +kernel), wc_X4_isFalling, wi_BasisMovesModel, (by decide +kernel), (by decide +kernel)⟩
theorem ws_X4_isFalling : Cond.static yX4_isFalling ∈ bz_tbl := bz_one 513 (by decide +kernel) rfl
abbrev mX4_key : bz_M := (yX4_key, cX4_key, RX4, 1, (some .int))
theorem wc_X4_key : Cond.code yX4_key cX4_key 1 (some .int) ∈ bz_tbl := bz_one 524 (by decide +kernel) rfl
theorem mv_X4_key : bz_mv mX4_key 1 := ⟨rfl, (by decide +kernel), wc_X4_key, wi_BasisMovesModel, (by decide +kernel), (by decide +kernel)⟩
theorem ws_X4_key : Cond.static yX4_key ∈ bz_tbl := bz_one 523 (by decide +kernel) rfl
abbrev mX4_layPartition : bz_M := (yX4_layPartition, cX4_layPartition, RX4, 6, none)
theorem wc_X4_layPartition : Cond.code yX4_layPartition cX4_layPartition 6 none ∈ bz_tbl := bz_one 518 (by decide +kernel) rfl
theorem mv_X4_layPartition : bz_mv mX4_layPartition 3 := ⟨rfl, (by decide +kernel), wc_X4_layPartition, wi_BasisMovesModel, (by decide +kernel), (by decide +kernel)⟩
theorem wn_X4_layPartition : Cond.instanceMethod yX4_layPartition ∈ bz_tbl := bz_one 517 (by decide +kernel) rfl
theorem wl_X4_layPartition : Cond.selects RX4 yX4_layPartition yX4_layPartition ∈ bz_tbl := bz_one 38 (by decide +kernel) rfl
theorem mi_X4_layPartition : bz_mi mX4_layPartition := ⟨wn_X4_layPartition, wl_X4_layPartition⟩
abbrev mX4_at : bz_M := (yX4_at, cX4_at, RX4, 3, (some .int))
theorem wc_X4_at : Cond.code yX4_at cX4_at 3 (some .int) ∈ bz_tbl := bz_one 527 (by decide +kernel) rfl
theorem mv_X4_at : bz_mv mX4_at 3 := ⟨rfl, (by decide +kernel), wc_X4_at, wi_BasisMovesModel, (by decide +kernel), (by decide +kernel)⟩
theorem ws_X4_at : Cond.static yX4_at ∈ bz_tbl := bz_one 526 (by decide +kernel) rfl
abbrev mX4_partOf : bz_M := (yX4_partOf, cX4_partOf, RX4, 3, (some .int))
theorem wc_X4_partOf : Cond.code yX4_partOf cX4_partOf 3 (some .int) ∈ bz_tbl := bz_one 539 (by decide +kernel) rfl
theorem mv_X4_partOf : bz_mv mX4_partOf 2 := ⟨rfl, (by decide +kernel), wc_X4_partOf, wi_BasisMovesModel, (by decide +kernel), (by decide +kernel)⟩
theorem wn_X4_partOf : Cond.instanceMethod yX4_partOf ∈ bz_tbl := bz_one 538 (by decide +kernel) rfl
theorem wl_X4_partOf : Cond.selects RX4 yX4_partOf yX4_partOf ∈ bz_tbl := bz_one 41 (by decide +kernel) rfl
theorem mi_X4_partOf : bz_mi mX4_partOf := ⟨wn_X4_partOf, wl_X4_partOf⟩
abbrev mX4_lengthOf : bz_M := (yX4_lengthOf, cX4_lengthOf, RX4, 4, (some .int))
theorem wc_X4_lengthOf : Cond.code yX4_lengthOf cX4_lengthOf 4 (some .int) ∈ bz_tbl := bz_one 535 (by decide +kernel) rfl
theorem mv_X4_lengthOf : bz_mv mX4_lengthOf 1 := ⟨rfl, (by decide +kernel), wc_X4_lengthOf, wi_BasisMovesModel, (by decide +kernel), (by decide +kernel)⟩
theorem wn_X4_lengthOf : Cond.instanceMethod yX4_lengthOf ∈ bz_tbl := bz_one 534 (by decide +kernel) rfl
theorem wl_X4_lengthOf : Cond.selects RX4 yX4_lengthOf yX4_lengthOf ∈ bz_tbl := bz_one 40 (by decide +kernel) rfl
theorem mi_X4_lengthOf : bz_mi mX4_lengthOf := ⟨wn_X4_lengthOf, wl_X4_lengthOf⟩
abbrev mX4_multiply : bz_M := (yX4_multiply, cX4_multiply, RX4, 17, none)
theorem wc_X4_multiply : Cond.code yX4_multiply cX4_multiply 17 none ∈ bz_tbl := bz_one 543 (by decide +kernel) rfl
theorem mv_X4_multiply : bz_mv mX4_multiply 6 := ⟨rfl, (by decide +kernel), wc_X4_multiply, wi_BasisMovesModel, (by decide +kernel), (by decide +kernel)⟩
theorem wn_X4_multiply : Cond.instanceMethod yX4_multiply ∈ bz_tbl := bz_one 542 (by decide +kernel) rfl
theorem wl_X4_multiply : Cond.selects RX4 yX4_multiply yX4_multiply ∈ bz_tbl := bz_one 42 (by decide +kernel) rfl
theorem mi_X4_multiply : bz_mi mX4_multiply := ⟨wn_X4_multiply, wl_X4_multiply⟩
abbrev mX4_layProduct : bz_M := (yX4_layProduct, cX4_layProduct, RX4, 8, none)
theorem wc_X4_layProduct : Cond.code yX4_layProduct cX4_layProduct 8 none ∈ bz_tbl := bz_one 531 (by decide +kernel) rfl
theorem mv_X4_layProduct : bz_mv mX4_layProduct 2 := ⟨rfl, (by decide +kernel), wc_X4_layProduct, wi_BasisMovesModel, (by decide +kernel), (by decide +kernel)⟩
theorem wn_X4_layProduct : Cond.instanceMethod yX4_layProduct ∈ bz_tbl := bz_one 530 (by decide +kernel) rfl
theorem wl_X4_layProduct : Cond.selects RX4 yX4_layProduct yX4_layProduct ∈ bz_tbl := bz_one 39 (by decide +kernel) rfl
theorem mi_X4_layProduct : bz_mi mX4_layProduct := ⟨wn_X4_layProduct, wl_X4_layProduct⟩
abbrev mX4_in : bz_M := (yX4_in, cX4_in, RX4, 3, (some .boolean))
theorem wc_X4_in : Cond.code yX4_in cX4_in 3 (some .boolean) ∈ bz_tbl := bz_one 611 (by decide +kernel) rfl
theorem mv_X4_in : bz_mv mX4_in 3 := ⟨rfl, (by decide +kernel), wc_X4_in, wi_BasisMovesModel, (by decide +kernel), (by decide +kernel)⟩
theorem ws_X4_in : Cond.static yX4_in ∈ bz_tbl := bz_one 610 (by decide +kernel) rfl
abbrev mX4_isPartition : bz_M := (yX4_isPartition, cX4_isPartition, RX4, 1, (some .boolean))
theorem wc_X4_isPartition : Cond.code yX4_isPartition cX4_isPartition 1 (some .boolean) ∈ bz_tbl := bz_one 608 (by decide +kernel) rfl
theorem mv_X4_isPartition : bz_mv mX4_isPartition 1 := ⟨rfl, (by decide +kernel), wc_X4_isPartition, wi_BasisMovesModel, (by decide +kernel), (by decide +kernel)⟩
theorem ws_X4_isPartition : Cond.static yX4_isPartition ∈ bz_tbl := bz_one 607 (by decide +kernel) rfl
abbrev mX4_isSlot : bz_M := (yX4_isSlot, cX4_isSlot, RX4, 1, (some .boolean))
theorem wc_X4_isSlot : Cond.code yX4_isSlot cX4_isSlot 1 (some .boolean) ∈ bz_tbl := bz_one 679 (by decide +kernel) rfl
theorem mv_X4_isSlot : bz_mv mX4_isSlot 1 := ⟨rfl, (by decide +kernel), wc_X4_isSlot, wi_BasisMovesModel, (by decide +kernel), (by decide +kernel)⟩
theorem ws_X4_isSlot : Cond.static yX4_isSlot ∈ bz_tbl := bz_one 678 (by decide +kernel) rfl
abbrev mX4_isFilled : bz_M := (yX4_isFilled, cX4_isFilled, RX4, 10, (some .boolean))
theorem wc_X4_isFilled : Cond.code yX4_isFilled cX4_isFilled 10 (some .boolean) ∈ bz_tbl := bz_one 639 (by decide +kernel) rfl
theorem mv_X4_isFilled : bz_mv mX4_isFilled 4 := ⟨rfl, (by decide +kernel), wc_X4_isFilled, wi_BasisMovesModel, (by decide +kernel), (by decide +kernel)⟩
theorem wn_X4_isFilled : Cond.instanceMethod yX4_isFilled ∈ bz_tbl := bz_one 638 (by decide +kernel) rfl
theorem wl_X4_isFilled : Cond.selects RX4 yX4_isFilled yX4_isFilled ∈ bz_tbl := bz_one 48 (by decide +kernel) rfl
theorem mi_X4_isFilled : bz_mi mX4_isFilled := ⟨wn_X4_isFilled, wl_X4_isFilled⟩
abbrev mX4_fillings : bz_M := (yX4_fillings, cX4_fillings, RX4, 7, (some .int))
theorem wc_X4_fillings : Cond.code yX4_fillings cX4_fillings 7 (some .int) ∈ bz_tbl := bz_one 635 (by decide +kernel) rfl
theorem mv_X4_fillings : bz_mv mX4_fillings 2 := ⟨rfl, (by decide +kernel), wc_X4_fillings, wi_BasisMovesModel, (by decide +kernel), (by decide +kernel)⟩
theorem wn_X4_fillings : Cond.instanceMethod yX4_fillings ∈ bz_tbl := bz_one 634 (by decide +kernel) rfl
theorem wl_X4_fillings : Cond.selects RX4 yX4_fillings yX4_fillings ∈ bz_tbl := bz_one 47 (by decide +kernel) rfl
theorem mi_X4_fillings : bz_mi mX4_fillings := ⟨wn_X4_fillings, wl_X4_fillings⟩
abbrev mX4_layTableaux : bz_M := (yX4_layTableaux, cX4_layTableaux, RX4, 3, none)
theorem wc_X4_layTableaux : Cond.code yX4_layTableaux cX4_layTableaux 3 none ∈ bz_tbl := bz_one 655 (by decide +kernel) rfl
theorem mv_X4_layTableaux : bz_mv mX4_layTableaux 0 := ⟨rfl, (by decide +kernel), wc_X4_layTableaux, wi_BasisMovesModel, (by decide +kernel), (by decide +kernel)⟩
theorem wn_X4_layTableaux : Cond.instanceMethod yX4_layTableaux ∈ bz_tbl := bz_one 654 (by decide +kernel) rfl
theorem wl_X4_layTableaux : Cond.selects RX4 yX4_layTableaux yX4_layTableaux ∈ bz_tbl := bz_one 49 (by decide +kernel) rfl
theorem mi_X4_layTableaux : bz_mi mX4_layTableaux := ⟨wn_X4_layTableaux, wl_X4_layTableaux⟩
abbrev mX4_part : bz_M := (yX4_part, cX4_part, RX4, 3, (some .int))
theorem wc_X4_part : Cond.code yX4_part cX4_part 3 (some .int) ∈ bz_tbl := bz_one 605 (by decide +kernel) rfl
theorem mv_X4_part : bz_mv mX4_part 2 := ⟨rfl, (by decide +kernel), wc_X4_part, wi_BasisMovesModel, (by decide +kernel), (by decide +kernel)⟩
theorem wn_X4_part : Cond.instanceMethod yX4_part ∈ bz_tbl := bz_one 603 (by decide +kernel) rfl
theorem wl_X4_part : Cond.selects RX4 yX4_part yX4_part ∈ bz_tbl := bz_one 604 (by decide +kernel) rfl
theorem mi_X4_part : bz_mi mX4_part := ⟨wn_X4_part, wl_X4_part⟩
abbrev mX4_conjugate : bz_M := (yX4_conjugate, cX4_conjugate, RX4, 6, (some .int))
theorem wc_X4_conjugate : Cond.code yX4_conjugate cX4_conjugate 6 (some .int) ∈ bz_tbl := bz_one 619 (by decide +kernel) rfl
theorem mv_X4_conjugate : bz_mv mX4_conjugate 1 := ⟨rfl, (by decide +kernel), wc_X4_conjugate, wi_BasisMovesModel, (by decide +kernel), (by decide +kernel)⟩
theorem wn_X4_conjugate : Cond.instanceMethod yX4_conjugate ∈ bz_tbl := bz_one 618 (by decide +kernel) rfl
theorem wl_X4_conjugate : Cond.selects RX4 yX4_conjugate yX4_conjugate ∈ bz_tbl := bz_one 43 (by decide +kernel) rfl
theorem mi_X4_conjugate : bz_mi mX4_conjugate := ⟨wn_X4_conjugate, wl_X4_conjugate⟩
abbrev mX4_timesOf : bz_M := (yX4_timesOf, cX4_timesOf, RX4, 5, (some .int))
theorem wc_X4_timesOf : Cond.code yX4_timesOf cX4_timesOf 5 (some .int) ∈ bz_tbl := bz_one 631 (by decide +kernel) rfl
theorem mv_X4_timesOf : bz_mv mX4_timesOf 2 := ⟨rfl, (by decide +kernel), wc_X4_timesOf, wi_BasisMovesModel, (by decide +kernel), (by decide +kernel)⟩
theorem wn_X4_timesOf : Cond.instanceMethod yX4_timesOf ∈ bz_tbl := bz_one 630 (by decide +kernel) rfl
theorem wl_X4_timesOf : Cond.selects RX4 yX4_timesOf yX4_timesOf ∈ bz_tbl := bz_one 46 (by decide +kernel) rfl
theorem mi_X4_timesOf : bz_mi mX4_timesOf := ⟨wn_X4_timesOf, wl_X4_timesOf⟩
abbrev mX4_alike : bz_M := (yX4_alike, cX4_alike, RX4, 6, (some .int))
theorem wc_X4_alike : Cond.code yX4_alike cX4_alike 6 (some .int) ∈ bz_tbl := bz_one 627 (by decide +kernel) rfl
theorem mv_X4_alike : bz_mv mX4_alike 1 := ⟨rfl, (by decide +kernel), wc_X4_alike, wi_BasisMovesModel, (by decide +kernel), (by decide +kernel)⟩
theorem wn_X4_alike : Cond.instanceMethod yX4_alike ∈ bz_tbl := bz_one 626 (by decide +kernel) rfl
theorem wl_X4_alike : Cond.selects RX4 yX4_alike yX4_alike ∈ bz_tbl := bz_one 45 (by decide +kernel) rfl
theorem mi_X4_alike : bz_mi mX4_alike := ⟨wn_X4_alike, wl_X4_alike⟩
abbrev mX4_z : bz_M := (yX4_z, cX4_z, RX4, 4, (some .int))
theorem wc_X4_z : Cond.code yX4_z cX4_z 4 (some .int) ∈ bz_tbl := bz_one 623 (by decide +kernel) rfl
theorem mv_X4_z : bz_mv mX4_z 1 := ⟨rfl, (by decide +kernel), wc_X4_z, wi_BasisMovesModel, (by decide +kernel), (by decide +kernel)⟩
theorem wn_X4_z : Cond.instanceMethod yX4_z ∈ bz_tbl := bz_one 622 (by decide +kernel) rfl
theorem wl_X4_z : Cond.selects RX4 yX4_z yX4_z ∈ bz_tbl := bz_one 44 (by decide +kernel) rfl
theorem mi_X4_z : bz_mi mX4_z := ⟨wn_X4_z, wl_X4_z⟩
abbrev mX4_about : bz_M := (yX4_about, cX4_about, RX4, 3, (some .int))
theorem wc_X4_about : Cond.code yX4_about cX4_about 3 (some .int) ∈ bz_tbl := bz_one 615 (by decide +kernel) rfl
theorem mv_X4_about : bz_mv mX4_about 2 := ⟨rfl, (by decide +kernel), wc_X4_about, wi_BasisMovesModel, (by decide +kernel), (by decide +kernel)⟩
theorem wn_X4_about : Cond.instanceMethod yX4_about ∈ bz_tbl := bz_one 613 (by decide +kernel) rfl
theorem wl_X4_about : Cond.selects RX4 yX4_about yX4_about ∈ bz_tbl := bz_one 614 (by decide +kernel) rfl
theorem mi_X4_about : bz_mi mX4_about := ⟨wn_X4_about, wl_X4_about⟩
abbrev mX4_kostka : bz_M := (yX4_kostka, cX4_kostka, RX4, 3, (some .int))
theorem wc_X4_kostka : Cond.code yX4_kostka cX4_kostka 3 (some .int) ∈ bz_tbl := bz_one 643 (by decide +kernel) rfl
theorem mv_X4_kostka : bz_mv mX4_kostka 2 := ⟨rfl, (by decide +kernel), wc_X4_kostka, wi_BasisMovesModel, (by decide +kernel), (by decide +kernel)⟩
theorem wn_X4_kostka : Cond.instanceMethod yX4_kostka ∈ bz_tbl := bz_one 641 (by decide +kernel) rfl
theorem wl_X4_kostka : Cond.selects RX4 yX4_kostka yX4_kostka ∈ bz_tbl := bz_one 642 (by decide +kernel) rfl
theorem mi_X4_kostka : bz_mi mX4_kostka := ⟨wn_X4_kostka, wl_X4_kostka⟩
abbrev mX4_above : bz_M := (yX4_above, cX4_above, RX4, 6, (some .int))
theorem wc_X4_above : Cond.code yX4_above cX4_above 6 (some .int) ∈ bz_tbl := bz_one 647 (by decide +kernel) rfl
theorem mv_X4_above : bz_mv mX4_above 2 := ⟨rfl, (by decide +kernel), wc_X4_above, wi_BasisMovesModel, (by decide +kernel), (by decide +kernel)⟩
theorem wn_X4_above : Cond.instanceMethod yX4_above ∈ bz_tbl := bz_one 645 (by decide +kernel) rfl
theorem wl_X4_above : Cond.selects RX4 yX4_above yX4_above ∈ bz_tbl := bz_one 646 (by decide +kernel) rfl
theorem mi_X4_above : bz_mi mX4_above := ⟨wn_X4_above, wl_X4_above⟩
abbrev mX4_takeOff : bz_M := (yX4_takeOff, cX4_takeOff, RX4, 6, none)
theorem wc_X4_takeOff : Cond.code yX4_takeOff cX4_takeOff 6 none ∈ bz_tbl := bz_one 668 (by decide +kernel) rfl
theorem mv_X4_takeOff : bz_mv mX4_takeOff 3 := ⟨rfl, (by decide +kernel), wc_X4_takeOff, wi_BasisMovesModel, (by decide +kernel), (by decide +kernel)⟩
theorem wn_X4_takeOff : Cond.instanceMethod yX4_takeOff ∈ bz_tbl := bz_one 667 (by decide +kernel) rfl
theorem wl_X4_takeOff : Cond.selects RX4 yX4_takeOff yX4_takeOff ∈ bz_tbl := bz_one 52 (by decide +kernel) rfl
theorem mi_X4_takeOff : bz_mi mX4_takeOff := ⟨wn_X4_takeOff, wl_X4_takeOff⟩
abbrev mX4_layFound : bz_M := (yX4_layFound, cX4_layFound, RX4, 5, none)
theorem wc_X4_layFound : Cond.code yX4_layFound cX4_layFound 5 none ∈ bz_tbl := bz_one 663 (by decide +kernel) rfl
theorem mv_X4_layFound : bz_mv mX4_layFound 3 := ⟨rfl, (by decide +kernel), wc_X4_layFound, wi_BasisMovesModel, (by decide +kernel), (by decide +kernel)⟩
theorem wn_X4_layFound : Cond.instanceMethod yX4_layFound ∈ bz_tbl := bz_one 662 (by decide +kernel) rfl
theorem wl_X4_layFound : Cond.selects RX4 yX4_layFound yX4_layFound ∈ bz_tbl := bz_one 51 (by decide +kernel) rfl
theorem mi_X4_layFound : bz_mi mX4_layFound := ⟨wn_X4_layFound, wl_X4_layFound⟩
abbrev mX4_layComplete : bz_M := (yX4_layComplete, cX4_layComplete, RX4, 3, none)
theorem wc_X4_layComplete : Cond.code yX4_layComplete cX4_layComplete 3 none ∈ bz_tbl := bz_one 672 (by decide +kernel) rfl
theorem mv_X4_layComplete : bz_mv mX4_layComplete 0 := ⟨rfl, (by decide +kernel), wc_X4_layComplete, wi_BasisMovesModel, (by decide +kernel), (by decide +kernel)⟩
theorem wn_X4_layComplete : Cond.instanceMethod yX4_layComplete ∈ bz_tbl := bz_one 671 (by decide +kernel) rfl
theorem wl_X4_layComplete : Cond.selects RX4 yX4_layComplete yX4_layComplete ∈ bz_tbl := bz_one 53 (by decide +kernel) rfl
theorem mi_X4_layComplete : bz_mi mX4_layComplete := ⟨wn_X4_layComplete, wl_X4_layComplete⟩
abbrev mX4_scalarOf : bz_M := (yX4_scalarOf, cX4_scalarOf, RX4, 8, (some .long))
theorem wc_X4_scalarOf : Cond.code yX4_scalarOf cX4_scalarOf 8 (some .long) ∈ bz_tbl := bz_one 659 (by decide +kernel) rfl
theorem mv_X4_scalarOf : bz_mv mX4_scalarOf 4 := ⟨rfl, (by decide +kernel), wc_X4_scalarOf, wi_BasisMovesModel, (by decide +kernel), (by decide +kernel)⟩
theorem wn_X4_scalarOf : Cond.instanceMethod yX4_scalarOf ∈ bz_tbl := bz_one 658 (by decide +kernel) rfl
theorem wl_X4_scalarOf : Cond.selects RX4 yX4_scalarOf yX4_scalarOf ∈ bz_tbl := bz_one 50 (by decide +kernel) rfl
theorem mi_X4_scalarOf : bz_mi mX4_scalarOf := ⟨wn_X4_scalarOf, wl_X4_scalarOf⟩
abbrev mX4_character : bz_M := (yX4_character, cX4_character, RX4, 3, (some .int))
theorem wc_X4_character : Cond.code yX4_character cX4_character 3 (some .int) ∈ bz_tbl := bz_one 651 (by decide +kernel) rfl
theorem mv_X4_character : bz_mv mX4_character 2 := ⟨rfl, (by decide +kernel), wc_X4_character, wi_BasisMovesModel, (by decide +kernel), (by decide +kernel)⟩
theorem wn_X4_character : Cond.instanceMethod yX4_character ∈ bz_tbl := bz_one 649 (by decide +kernel) rfl
theorem wl_X4_character : Cond.selects RX4 yX4_character yX4_character ∈ bz_tbl := bz_one 650 (by decide +kernel) rfl
theorem mi_X4_character : bz_mi mX4_character := ⟨wn_X4_character, wl_X4_character⟩
abbrev mX4_clearWork : bz_M := (yX4_clearWork, cX4_clearWork, RX4, 2, none)
theorem wc_X4_clearWork : Cond.code yX4_clearWork cX4_clearWork 2 none ∈ bz_tbl := bz_one 683 (by decide +kernel) rfl
theorem mv_X4_clearWork : bz_mv mX4_clearWork 0 := ⟨rfl, (by decide +kernel), wc_X4_clearWork, wi_BasisMovesModel, (by decide +kernel), (by decide +kernel)⟩
theorem wn_X4_clearWork : Cond.instanceMethod yX4_clearWork ∈ bz_tbl := bz_one 682 (by decide +kernel) rfl
theorem wl_X4_clearWork : Cond.selects RX4 yX4_clearWork yX4_clearWork ∈ bz_tbl := bz_one 54 (by decide +kernel) rfl
theorem mi_X4_clearWork : bz_mi mX4_clearWork := ⟨wn_X4_clearWork, wl_X4_clearWork⟩
abbrev mX4_addMember : bz_M := (yX4_addMember, cX4_addMember, RX4, 6, none)
theorem wc_X4_addMember : Cond.code yX4_addMember cX4_addMember 6 none ∈ bz_tbl := bz_one 687 (by decide +kernel) rfl
theorem mv_X4_addMember : bz_mv mX4_addMember 3 := ⟨rfl, (by decide +kernel), wc_X4_addMember, wi_BasisMovesModel, (by decide +kernel), (by decide +kernel)⟩
theorem wn_X4_addMember : Cond.instanceMethod yX4_addMember ∈ bz_tbl := bz_one 686 (by decide +kernel) rfl
theorem wl_X4_addMember : Cond.selects RX4 yX4_addMember yX4_addMember ∈ bz_tbl := bz_one 55 (by decide +kernel) rfl
theorem mi_X4_addMember : bz_mi mX4_addMember := ⟨wn_X4_addMember, wl_X4_addMember⟩
abbrev mX4_keep : bz_M := (yX4_keep, cX4_keep, RX4, 3, (some .int))
theorem wc_X4_keep : Cond.code yX4_keep cX4_keep 3 (some .int) ∈ bz_tbl := bz_one 691 (by decide +kernel) rfl
theorem mv_X4_keep : bz_mv mX4_keep 1 := ⟨rfl, (by decide +kernel), wc_X4_keep, wi_BasisMovesModel, (by decide +kernel), (by decide +kernel)⟩
theorem wn_X4_keep : Cond.instanceMethod yX4_keep ∈ bz_tbl := bz_one 690 (by decide +kernel) rfl
theorem wl_X4_keep : Cond.selects RX4 yX4_keep yX4_keep ∈ bz_tbl := bz_one 56 (by decide +kernel) rfl
theorem mi_X4_keep : bz_mi mX4_keep := ⟨wn_X4_keep, wl_X4_keep⟩
abbrev mX4_put : bz_M := (yX4_put, cX4_put, RX4, 5, (some .int))
theorem wc_X4_put : Cond.code yX4_put cX4_put 5 (some .int) ∈ bz_tbl := bz_one 676 (by decide +kernel) rfl
theorem mv_X4_put : bz_mv mX4_put 4 := ⟨rfl, (by decide +kernel), wc_X4_put, wi_BasisMovesModel, (by decide +kernel), (by decide +kernel)⟩
theorem wn_X4_put : Cond.instanceMethod yX4_put ∈ bz_tbl := bz_one 674 (by decide +kernel) rfl
theorem wl_X4_put : Cond.selects RX4 yX4_put yX4_put ∈ bz_tbl := bz_one 675 (by decide +kernel) rfl
theorem mi_X4_put : bz_mi mX4_put := ⟨wn_X4_put, wl_X4_put⟩
abbrev mX4_add : bz_M := (yX4_add, cX4_add, RX4, 5, (some .int))
theorem wc_X4_add : Cond.code yX4_add cX4_add 5 (some .int) ∈ bz_tbl := bz_one 697 (by decide +kernel) rfl
theorem mv_X4_add : bz_mv mX4_add 3 := ⟨rfl, (by decide +kernel), wc_X4_add, wi_BasisMovesModel, (by decide +kernel), (by decide +kernel)⟩
theorem wn_X4_add : Cond.instanceMethod yX4_add ∈ bz_tbl := bz_one 695 (by decide +kernel) rfl
theorem wl_X4_add : Cond.selects RX4 yX4_add yX4_add ∈ bz_tbl := bz_one 696 (by decide +kernel) rfl
theorem mi_X4_add : bz_mi mX4_add := ⟨wn_X4_add, wl_X4_add⟩
abbrev mX4_degreeOf : bz_M := (yX4_degreeOf, cX4_degreeOf, RX4, 4, (some .int))
theorem wc_X4_degreeOf : Cond.code yX4_degreeOf cX4_degreeOf 4 (some .int) ∈ bz_tbl := bz_one 705 (by decide +kernel) rfl
theorem mv_X4_degreeOf : bz_mv mX4_degreeOf 1 := ⟨rfl, (by decide +kernel), wc_X4_degreeOf, wi_BasisMovesModel, (by decide +kernel), (by decide +kernel)⟩
theorem wn_X4_degreeOf : Cond.instanceMethod yX4_degreeOf ∈ bz_tbl := bz_one 704 (by decide +kernel) rfl
theorem wl_X4_degreeOf : Cond.selects RX4 yX4_degreeOf yX4_degreeOf ∈ bz_tbl := bz_one 57 (by decide +kernel) rfl
theorem mi_X4_degreeOf : bz_mi mX4_degreeOf := ⟨wn_X4_degreeOf, wl_X4_degreeOf⟩
abbrev mX4_degree : bz_M := (yX4_degree, cX4_degree, RX4, 2, (some .int))
theorem wc_X4_degree : Cond.code yX4_degree cX4_degree 2 (some .int) ∈ bz_tbl := bz_one 701 (by decide +kernel) rfl
theorem mv_X4_degree : bz_mv mX4_degree 1 := ⟨rfl, (by decide +kernel), wc_X4_degree, wi_BasisMovesModel, (by decide +kernel), (by decide +kernel)⟩
theorem wn_X4_degree : Cond.instanceMethod yX4_degree ∈ bz_tbl := bz_one 699 (by decide +kernel) rfl
theorem wl_X4_degree : Cond.selects RX4 yX4_degree yX4_degree ∈ bz_tbl := bz_one 700 (by decide +kernel) rfl
theorem mi_X4_degree : bz_mi mX4_degree := ⟨wn_X4_degree, wl_X4_degree⟩
abbrev mX4_common : bz_M := (yX4_common, cX4_common, RX4, 11, (some .long))
theorem wc_X4_common : Cond.code yX4_common cX4_common 11 (some .long) ∈ bz_tbl := bz_one 714 (by decide +kernel) rfl
theorem mv_X4_common : bz_mv mX4_common 2 := ⟨rfl, (by decide +kernel), wc_X4_common, wi_BasisMovesModel, (by decide +kernel), (by decide +kernel)⟩
theorem ws_X4_common : Cond.static yX4_common ∈ bz_tbl := bz_one 713 (by decide +kernel) rfl
abbrev mX4_coefficient : bz_M := (yX4_coefficient, cX4_coefficient, RX4, 9, (some .long))
theorem wc_X4_coefficient : Cond.code yX4_coefficient cX4_coefficient 9 (some .long) ∈ bz_tbl := bz_one 709 (by decide +kernel) rfl
theorem mv_X4_coefficient : bz_mv mX4_coefficient 4 := ⟨rfl, (by decide +kernel), wc_X4_coefficient, wi_BasisMovesModel, (by decide +kernel), (by decide +kernel)⟩
theorem wn_X4_coefficient : Cond.instanceMethod yX4_coefficient ∈ bz_tbl := bz_one 707 (by decide +kernel) rfl
theorem wl_X4_coefficient : Cond.selects RX4 yX4_coefficient yX4_coefficient ∈ bz_tbl := bz_one 708 (by decide +kernel) rfl
theorem mi_X4_coefficient : bz_mi mX4_coefficient := ⟨wn_X4_coefficient, wl_X4_coefficient⟩
abbrev mX4_next : bz_M := (yX4_next, cX4_next, RX4, 6, (some .int))
theorem wc_X4_next : Cond.code yX4_next cX4_next 6 (some .int) ∈ bz_tbl := bz_one 718 (by decide +kernel) rfl
theorem mv_X4_next : bz_mv mX4_next 3 := ⟨rfl, (by decide +kernel), wc_X4_next, wi_BasisMovesModel, (by decide +kernel), (by decide +kernel)⟩
theorem wn_X4_next : Cond.instanceMethod yX4_next ∈ bz_tbl := bz_one 716 (by decide +kernel) rfl
theorem wl_X4_next : Cond.selects RX4 yX4_next yX4_next ∈ bz_tbl := bz_one 717 (by decide +kernel) rfl
theorem mi_X4_next : bz_mi mX4_next := ⟨wn_X4_next, wl_X4_next⟩
abbrev mX4_power : bz_M := (yX4_power, cX4_power, RX4, 5, (some .long))
theorem wc_X4_power : Cond.code yX4_power cX4_power 5 (some .long) ∈ bz_tbl := bz_one 725 (by decide +kernel) rfl
theorem mv_X4_power : bz_mv mX4_power 2 := ⟨rfl, (by decide +kernel), wc_X4_power, wi_BasisMovesModel, (by decide +kernel), (by decide +kernel)⟩
theorem ws_X4_power : Cond.static yX4_power ∈ bz_tbl := bz_one 724 (by decide +kernel) rfl
abbrev mX4_value : bz_M := (yX4_value, cX4_value, RX4, 12, (some .long))
theorem wc_X4_value : Cond.code yX4_value cX4_value 12 (some .long) ∈ bz_tbl := bz_one 722 (by decide +kernel) rfl
theorem mv_X4_value : bz_mv mX4_value 4 := ⟨rfl, (by decide +kernel), wc_X4_value, wi_BasisMovesModel, (by decide +kernel), (by decide +kernel)⟩
theorem wn_X4_value : Cond.instanceMethod yX4_value ∈ bz_tbl := bz_one 720 (by decide +kernel) rfl
theorem wl_X4_value : Cond.selects RX4 yX4_value yX4_value ∈ bz_tbl := bz_one 721 (by decide +kernel) rfl
theorem mi_X4_value : bz_mi mX4_value := ⟨wn_X4_value, wl_X4_value⟩
abbrev mX4_scalar : bz_M := (yX4_scalar, cX4_scalar, RX4, 3, (some .long))
theorem wc_X4_scalar : Cond.code yX4_scalar cX4_scalar 3 (some .long) ∈ bz_tbl := bz_one 729 (by decide +kernel) rfl
theorem mv_X4_scalar : bz_mv mX4_scalar 2 := ⟨rfl, (by decide +kernel), wc_X4_scalar, wi_BasisMovesModel, (by decide +kernel), (by decide +kernel)⟩
theorem wn_X4_scalar : Cond.instanceMethod yX4_scalar ∈ bz_tbl := bz_one 727 (by decide +kernel) rfl
theorem wl_X4_scalar : Cond.selects RX4 yX4_scalar yX4_scalar ∈ bz_tbl := bz_one 728 (by decide +kernel) rfl
theorem mi_X4_scalar : bz_mi mX4_scalar := ⟨wn_X4_scalar, wl_X4_scalar⟩
abbrev mX4_times : bz_M := (yX4_times, cX4_times, RX4, 4, (some .int))
theorem wc_X4_times : Cond.code yX4_times cX4_times 4 (some .int) ∈ bz_tbl := bz_one 733 (by decide +kernel) rfl
theorem mv_X4_times : bz_mv mX4_times 3 := ⟨rfl, (by decide +kernel), wc_X4_times, wi_BasisMovesModel, (by decide +kernel), (by decide +kernel)⟩
theorem wn_X4_times : Cond.instanceMethod yX4_times ∈ bz_tbl := bz_one 731 (by decide +kernel) rfl
theorem wl_X4_times : Cond.selects RX4 yX4_times yX4_times ∈ bz_tbl := bz_one 732 (by decide +kernel) rfl
theorem mi_X4_times : bz_mi mX4_times := ⟨wn_X4_times, wl_X4_times⟩
abbrev mX4_turn : bz_M := (yX4_turn, cX4_turn, RX4, 4, (some .int))
theorem wc_X4_turn : Cond.code yX4_turn cX4_turn 4 (some .int) ∈ bz_tbl := bz_one 737 (by decide +kernel) rfl
theorem mv_X4_turn : bz_mv mX4_turn 2 := ⟨rfl, (by decide +kernel), wc_X4_turn, wi_BasisMovesModel, (by decide +kernel), (by decide +kernel)⟩
theorem wn_X4_turn : Cond.instanceMethod yX4_turn ∈ bz_tbl := bz_one 735 (by decide +kernel) rfl
theorem wl_X4_turn : Cond.selects RX4 yX4_turn yX4_turn ∈ bz_tbl := bz_one 736 (by decide +kernel) rfl
theorem mi_X4_turn : bz_mi mX4_turn := ⟨wn_X4_turn, wl_X4_turn⟩
abbrev mX4_strip : bz_M := (yX4_strip, cX4_strip, RX4, 8, (some .int))
theorem wc_X4_strip : Cond.code yX4_strip cX4_strip 8 (some .int) ∈ bz_tbl := bz_one 741 (by decide +kernel) rfl
theorem mv_X4_strip : bz_mv mX4_strip 3 := ⟨rfl, (by decide +kernel), wc_X4_strip, wi_BasisMovesModel, (by decide +kernel), (by decide +kernel)⟩
theorem wn_X4_strip : Cond.instanceMethod yX4_strip ∈ bz_tbl := bz_one 739 (by decide +kernel) rfl
theorem wl_X4_strip : Cond.selects RX4 yX4_strip yX4_strip ∈ bz_tbl := bz_one 740 (by decide +kernel) rfl
theorem mi_X4_strip : bz_mi mX4_strip := ⟨wn_X4_strip, wl_X4_strip⟩
abbrev mX4_layMet : bz_M := (yX4_layMet, cX4_layMet, RX4, 3, none)
theorem wc_X4_layMet : Cond.code yX4_layMet cX4_layMet 3 none ∈ bz_tbl := bz_one 749 (by decide +kernel) rfl
theorem mv_X4_layMet : bz_mv mX4_layMet 1 := ⟨rfl, (by decide +kernel), wc_X4_layMet, wi_BasisMovesModel, (by decide +kernel), (by decide +kernel)⟩
theorem wn_X4_layMet : Cond.instanceMethod yX4_layMet ∈ bz_tbl := bz_one 748 (by decide +kernel) rfl
theorem wl_X4_layMet : Cond.selects RX4 yX4_layMet yX4_layMet ∈ bz_tbl := bz_one 58 (by decide +kernel) rfl
theorem mi_X4_layMet : bz_mi mX4_layMet := ⟨wn_X4_layMet, wl_X4_layMet⟩
abbrev mX4_meet : bz_M := (yX4_meet, cX4_meet, RX4, 5, (some .int))
theorem wc_X4_meet : Cond.code yX4_meet cX4_meet 5 (some .int) ∈ bz_tbl := bz_one 745 (by decide +kernel) rfl
theorem mv_X4_meet : bz_mv mX4_meet 3 := ⟨rfl, (by decide +kernel), wc_X4_meet, wi_BasisMovesModel, (by decide +kernel), (by decide +kernel)⟩
theorem wn_X4_meet : Cond.instanceMethod yX4_meet ∈ bz_tbl := bz_one 743 (by decide +kernel) rfl
theorem wl_X4_meet : Cond.selects RX4 yX4_meet yX4_meet ∈ bz_tbl := bz_one 744 (by decide +kernel) rfl
theorem mi_X4_meet : bz_mi mX4_meet := ⟨wn_X4_meet, wl_X4_meet⟩
abbrev mX4_layPower : bz_M := (yX4_layPower, cX4_layPower, RX4, 6, none)
theorem wc_X4_layPower : Cond.code yX4_layPower cX4_layPower 6 none ∈ bz_tbl := bz_one 765 (by decide +kernel) rfl
theorem mv_X4_layPower : bz_mv mX4_layPower 2 := ⟨rfl, (by decide +kernel), wc_X4_layPower, wi_BasisMovesModel, (by decide +kernel), (by decide +kernel)⟩
theorem wn_X4_layPower : Cond.instanceMethod yX4_layPower ∈ bz_tbl := bz_one 764 (by decide +kernel) rfl
theorem wl_X4_layPower : Cond.selects RX4 yX4_layPower yX4_layPower ∈ bz_tbl := bz_one 61 (by decide +kernel) rfl
theorem mi_X4_layPower : bz_mi mX4_layPower := ⟨wn_X4_layPower, wl_X4_layPower⟩
abbrev mX4_layPlugged : bz_M := (yX4_layPlugged, cX4_layPlugged, RX4, 5, none)
theorem wc_X4_layPlugged : Cond.code yX4_layPlugged cX4_layPlugged 5 none ∈ bz_tbl := bz_one 761 (by decide +kernel) rfl
theorem mv_X4_layPlugged : bz_mv mX4_layPlugged 2 := ⟨rfl, (by decide +kernel), wc_X4_layPlugged, wi_BasisMovesModel, (by decide +kernel), (by decide +kernel)⟩
theorem wn_X4_layPlugged : Cond.instanceMethod yX4_layPlugged ∈ bz_tbl := bz_one 760 (by decide +kernel) rfl
theorem wl_X4_layPlugged : Cond.selects RX4 yX4_layPlugged yX4_layPlugged ∈ bz_tbl := bz_one 60 (by decide +kernel) rfl
theorem mi_X4_layPlugged : bz_mi mX4_layPlugged := ⟨wn_X4_layPlugged, wl_X4_layPlugged⟩
abbrev mX4_isWithin : bz_M := (yX4_isWithin, cX4_isWithin, RX4, 7, (some .boolean))
theorem wc_X4_isWithin : Cond.code yX4_isWithin cX4_isWithin 7 (some .boolean) ∈ bz_tbl := bz_one 757 (by decide +kernel) rfl
theorem mv_X4_isWithin : bz_mv mX4_isWithin 2 := ⟨rfl, (by decide +kernel), wc_X4_isWithin, wi_BasisMovesModel, (by decide +kernel), (by decide +kernel)⟩
theorem wn_X4_isWithin : Cond.instanceMethod yX4_isWithin ∈ bz_tbl := bz_one 756 (by decide +kernel) rfl
theorem wl_X4_isWithin : Cond.selects RX4 yX4_isWithin yX4_isWithin ∈ bz_tbl := bz_one 59 (by decide +kernel) rfl
theorem mi_X4_isWithin : bz_mi mX4_isWithin := ⟨wn_X4_isWithin, wl_X4_isWithin⟩
abbrev mX4_plug : bz_M := (yX4_plug, cX4_plug, RX4, 6, (some .int))
theorem wc_X4_plug : Cond.code yX4_plug cX4_plug 6 (some .int) ∈ bz_tbl := bz_one 753 (by decide +kernel) rfl
theorem mv_X4_plug : bz_mv mX4_plug 3 := ⟨rfl, (by decide +kernel), wc_X4_plug, wi_BasisMovesModel, (by decide +kernel), (by decide +kernel)⟩
theorem wn_X4_plug : Cond.instanceMethod yX4_plug ∈ bz_tbl := bz_one 751 (by decide +kernel) rfl
theorem wl_X4_plug : Cond.selects RX4 yX4_plug yX4_plug ∈ bz_tbl := bz_one 752 (by decide +kernel) rfl
theorem mi_X4_plug : bz_mi mX4_plug := ⟨wn_X4_plug, wl_X4_plug⟩
abbrev mX4_image : bz_M := (yX4_image, cX4_image, RX4, 3, (some .int))
theorem wc_X4_image : Cond.code yX4_image cX4_image 3 (some .int) ∈ bz_tbl := bz_one 769 (by decide +kernel) rfl
theorem mv_X4_image : bz_mv mX4_image 1 := ⟨rfl, (by decide +kernel), wc_X4_image, wi_BasisMovesModel, (by decide +kernel), (by decide +kernel)⟩
theorem wn_X4_image : Cond.instanceMethod yX4_image ∈ bz_tbl := bz_one 767 (by decide +kernel) rfl
theorem wl_X4_image : Cond.selects RX4 yX4_image yX4_image ∈ bz_tbl := bz_one 768 (by decide +kernel) rfl
theorem mi_X4_image : bz_mi mX4_image := ⟨wn_X4_image, wl_X4_image⟩
abbrev mX4_restore : bz_M := (yX4_restore, cX4_restore, RX4, 3, (some .int))
theorem wc_X4_restore : Cond.code yX4_restore cX4_restore 3 (some .int) ∈ bz_tbl := bz_one 773 (by decide +kernel) rfl
theorem mv_X4_restore : bz_mv mX4_restore 1 := ⟨rfl, (by decide +kernel), wc_X4_restore, wi_BasisMovesModel, (by decide +kernel), (by decide +kernel)⟩
theorem wn_X4_restore : Cond.instanceMethod yX4_restore ∈ bz_tbl := bz_one 771 (by decide +kernel) rfl
theorem wl_X4_restore : Cond.selects RX4 yX4_restore yX4_restore ∈ bz_tbl := bz_one 772 (by decide +kernel) rfl
theorem mi_X4_restore : bz_mi mX4_restore := ⟨wn_X4_restore, wl_X4_restore⟩
abbrev mX4_ofDegree : bz_M := (yX4_ofDegree, cX4_ofDegree, RX4, 6, (some .int))
theorem wc_X4_ofDegree : Cond.code yX4_ofDegree cX4_ofDegree 6 (some .int) ∈ bz_tbl := bz_one 781 (by decide +kernel) rfl
theorem mv_X4_ofDegree : bz_mv mX4_ofDegree 2 := ⟨rfl, (by decide +kernel), wc_X4_ofDegree, wi_BasisMovesModel, (by decide +kernel), (by decide +kernel)⟩
theorem wn_X4_ofDegree : Cond.instanceMethod yX4_ofDegree ∈ bz_tbl := bz_one 780 (by decide +kernel) rfl
theorem wl_X4_ofDegree : Cond.selects RX4 yX4_ofDegree yX4_ofDegree ∈ bz_tbl := bz_one 62 (by decide +kernel) rfl
theorem mi_X4_ofDegree : bz_mi mX4_ofDegree := ⟨wn_X4_ofDegree, wl_X4_ofDegree⟩
abbrev mX4_count : bz_M := (yX4_count, cX4_count, RX4, 4, (some .int))
theorem wc_X4_count : Cond.code yX4_count cX4_count 4 (some .int) ∈ bz_tbl := bz_one 777 (by decide +kernel) rfl
theorem mv_X4_count : bz_mv mX4_count 1 := ⟨rfl, (by decide +kernel), wc_X4_count, wi_BasisMovesModel, (by decide +kernel), (by decide +kernel)⟩
theorem wn_X4_count : Cond.instanceMethod yX4_count ∈ bz_tbl := bz_one 775 (by decide +kernel) rfl
theorem wl_X4_count : Cond.selects RX4 yX4_count yX4_count ∈ bz_tbl := bz_one 776 (by decide +kernel) rfl
theorem mi_X4_count : bz_mi mX4_count := ⟨wn_X4_count, wl_X4_count⟩
abbrev mJ7_fill_d0a16 : bz_M := (yJ7_fill_d0a16, cJ7_fill_d0a16, RJ7, 5, none)
theorem wc_J7_fill_d0a16 : Cond.code yJ7_fill_d0a16 cJ7_fill_d0a16 5 none ∈ bz_tbl := bz_one 293 (by decide +kernel) rfl
theorem mv_J7_fill_d0a16 : bz_mv mJ7_fill_d0a16 2 := ⟨rfl, (by decide +kernel), wc_J7_fill_d0a16, wi_java_util_Arrays, (by decide +kernel), (by decide +kernel)⟩
theorem ws_J7_fill_d0a16 : Cond.static yJ7_fill_d0a16 ∈ bz_tbl := bz_one 292 (by decide +kernel) rfl
theorem lk_L_9 : Cond.methodLink RL 9 yX3_init ∈ bz_tbl := bz_one 74 (by decide +kernel) rfl
theorem lk_X1_36 : Cond.methodLink RX1 36 yX1_measure ∈ bz_tbl := bz_one 86 (by decide +kernel) rfl
theorem lk_X1_70 : Cond.methodLink RX1 70 yX1_partAt ∈ bz_tbl := bz_one 90 (by decide +kernel) rfl
theorem lk_X1_58 : Cond.methodLink RX1 58 yX1_isPlace ∈ bz_tbl := bz_one 97 (by decide +kernel) rfl
theorem lk_X1_73 : Cond.methodLink RX1 73 yX1_markOf ∈ bz_tbl := bz_one 102 (by decide +kernel) rfl
theorem lk_X1_40 : Cond.methodLink RX1 40 yX1_findConjugate ∈ bz_tbl := bz_one 105 (by decide +kernel) rfl
theorem lk_X1_44 : Cond.methodLink RX1 44 yX1_numberOf ∈ bz_tbl := bz_one 109 (by decide +kernel) rfl
theorem lk_X1_64 : Cond.methodLink RX1 64 yX1_endOf ∈ bz_tbl := bz_one 113 (by decide +kernel) rfl
theorem lk_X1_67 : Cond.methodLink RX1 67 yX1_startOf ∈ bz_tbl := bz_one 118 (by decide +kernel) rfl
theorem lk_X1_48 : Cond.methodLink RX1 48 yX1_fillColumn ∈ bz_tbl := bz_one 121 (by decide +kernel) rfl
theorem lk_X1_76 : Cond.methodLink RX1 76 yX1_isRowStrip ∈ bz_tbl := bz_one 125 (by decide +kernel) rfl
theorem lk_X1_80 : Cond.methodLink RX1 80 yX1_kostkaOf ∈ bz_tbl := bz_one 129 (by decide +kernel) rfl
theorem lk_X1_83 : Cond.methodLink RX1 83 yX1_rimSign ∈ bz_tbl := bz_one 133 (by decide +kernel) rfl
theorem lk_X1_89 : Cond.methodLink RX1 89 Lib.Math.min.name ∈ bz_tbl := bz_one 137 (by decide +kernel) rfl
theorem lk_X1_86 : Cond.methodLink RX1 86 yX1_characterOf ∈ bz_tbl := bz_one 140 (by decide +kernel) rfl
theorem lk_L_13 : Cond.methodLink RL 13 yX3_part ∈ bz_tbl := bz_one 248 (by decide +kernel) rfl
theorem lk_X3_54 : Cond.methodLink RX3 54 yX3_isPartition ∈ bz_tbl := bz_one 252 (by decide +kernel) rfl
theorem lk_L_18 : Cond.methodLink RL 18 yX3_about ∈ bz_tbl := bz_one 254 (by decide +kernel) rfl
theorem lk_L_22 : Cond.methodLink RL 22 yX3_kostka ∈ bz_tbl := bz_one 260 (by decide +kernel) rfl
theorem lk_L_26 : Cond.methodLink RL 26 yX3_character ∈ bz_tbl := bz_one 264 (by decide +kernel) rfl
theorem lk_L_30 : Cond.methodLink RL 30 yX3_above ∈ bz_tbl := bz_one 269 (by decide +kernel) rfl
theorem lk_L_34 : Cond.methodLink RL 34 yX3_put ∈ bz_tbl := bz_one 277 (by decide +kernel) rfl
theorem lk_X3_89 : Cond.methodLink RX3 89 yX3_isSlot ∈ bz_tbl := bz_one 281 (by decide +kernel) rfl
theorem lk_X3_92 : Cond.methodLink RX3 92 yX3_isBase ∈ bz_tbl := bz_one 284 (by decide +kernel) rfl
theorem lk_X3_97 : Cond.methodLink RX3 97 yX3_isWithin ∈ bz_tbl := bz_one 288 (by decide +kernel) rfl
theorem lk_X3_101 : Cond.methodLink RX3 101 yJ7_fill_d0a16 ∈ bz_tbl := bz_one 291 (by decide +kernel) rfl
theorem lk_X0_22 : Cond.methodLink RX0 22 arraycopyName ∈ bz_tbl := bz_one 298 (by decide +kernel) rfl
theorem lk_X0_41 : Cond.methodLink RX0 41 yX0_completesToTableaux ∈ bz_tbl := bz_one 301 (by decide +kernel) rfl
theorem lk_X0_70 : Cond.methodLink RX0 70 yX0_endFor ∈ bz_tbl := bz_one 305 (by decide +kernel) rfl
theorem lk_X0_32 : Cond.methodLink RX0 32 yX0_conjugate ∈ bz_tbl := bz_one 311 (by decide +kernel) rfl
theorem lk_X0_44 : Cond.methodLink RX0 44 yX0_powersToTableaux ∈ bz_tbl := bz_one 316 (by decide +kernel) rfl
theorem lk_X0_63 : Cond.methodLink RX0 63 yX0_startFor ∈ bz_tbl := bz_one 320 (by decide +kernel) rfl
theorem lk_X0_47 : Cond.methodLink RX0 47 yX0_tableauxToWeights ∈ bz_tbl := bz_one 326 (by decide +kernel) rfl
theorem lk_X3_111 : Cond.methodLink RX3 111 yX3_hold ∈ bz_tbl := bz_one 330 (by decide +kernel) rfl
theorem lk_X3_158 : Cond.methodLink RX3 158 yX3_areWithin ∈ bz_tbl := bz_one 335 (by decide +kernel) rfl
theorem lk_X3_165 : Cond.methodLink RX3 165 arraycopyName ∈ bz_tbl := bz_one 338 (by decide +kernel) rfl
theorem lk_L_39 : Cond.methodLink RL 39 yX3_add ∈ bz_tbl := bz_one 339 (by decide +kernel) rfl
theorem lk_L_44 : Cond.methodLink RL 44 yX3_degree ∈ bz_tbl := bz_one 343 (by decide +kernel) rfl
theorem lk_X3_114 : Cond.methodLink RX3 114 yX3_degreeOf ∈ bz_tbl := bz_one 347 (by decide +kernel) rfl
theorem lk_L_49 : Cond.methodLink RL 49 yX3_coefficient ∈ bz_tbl := bz_one 351 (by decide +kernel) rfl
theorem lk_X0_28 : Cond.methodLink RX0 28 yX0_weightsToTableaux ∈ bz_tbl := bz_one 361 (by decide +kernel) rfl
theorem lk_X0_35 : Cond.methodLink RX0 35 yX0_tableauxToCompletes ∈ bz_tbl := bz_one 365 (by decide +kernel) rfl
theorem lk_X0_38 : Cond.methodLink RX0 38 yX0_tableauxToPowers ∈ bz_tbl := bz_one 369 (by decide +kernel) rfl
theorem lk_X3_127 : Cond.methodLink RX3 127 yX3_commonDivisor ∈ bz_tbl := bz_one 374 (by decide +kernel) rfl
theorem lk_X3_184 : Cond.methodLink RX3 184 Lib.MathLoose.abs_long.x ∈ bz_tbl := bz_one 377 (by decide +kernel) rfl
theorem lk_L_54 : Cond.methodLink RL 54 yX3_next ∈ bz_tbl := bz_one 380 (by decide +kernel) rfl
theorem lk_L_58 : Cond.methodLink RL 58 yX3_value ∈ bz_tbl := bz_one 384 (by decide +kernel) rfl
theorem lk_X2_105 : Cond.methodLink RX2 105 yX2_powerOf ∈ bz_tbl := bz_one 396 (by decide +kernel) rfl
theorem lk_L_62 : Cond.methodLink RL 62 yX3_scalar ∈ bz_tbl := bz_one 399 (by decide +kernel) rfl
theorem lk_L_67 : Cond.methodLink RL 67 yX3_times ∈ bz_tbl := bz_one 406 (by decide +kernel) rfl
theorem lk_X3_141 : Cond.methodLink RX3 141 yX3_readPowers ∈ bz_tbl := bz_one 410 (by decide +kernel) rfl
theorem lk_X2_27 : Cond.methodLink RX2 27 yJ7_fill_d0a16 ∈ bz_tbl := bz_one 418 (by decide +kernel) rfl
theorem lk_X2_33 : Cond.methodLink RX2 33 yX2_addJoined ∈ bz_tbl := bz_one 419 (by decide +kernel) rfl
theorem lk_X2_37 : Cond.methodLink RX2 37 yX2_divideByCommon ∈ bz_tbl := bz_one 428 (by decide +kernel) rfl
theorem lk_X3_149 : Cond.methodLink RX3 149 yX3_holdPowers ∈ bz_tbl := bz_one 432 (by decide +kernel) rfl
theorem lk_L_71 : Cond.methodLink RL 71 yX3_turn ∈ bz_tbl := bz_one 437 (by decide +kernel) rfl
theorem lk_L_75 : Cond.methodLink RL 75 yX3_strip ∈ bz_tbl := bz_one 441 (by decide +kernel) rfl
theorem lk_X2_64 : Cond.methodLink RX2 64 yX2_scalarWithProduct ∈ bz_tbl := bz_one 449 (by decide +kernel) rfl
theorem lk_X2_68 : Cond.methodLink RX2 68 yX2_scalarWithPower ∈ bz_tbl := bz_one 453 (by decide +kernel) rfl
theorem lk_L_79 : Cond.methodLink RL 79 yX3_meet ∈ bz_tbl := bz_one 457 (by decide +kernel) rfl
theorem lk_L_83 : Cond.methodLink RL 83 yX3_plug ∈ bz_tbl := bz_one 465 (by decide +kernel) rfl
theorem lk_X2_72 : Cond.methodLink RX2 72 yX2_stretch ∈ bz_tbl := bz_one 473 (by decide +kernel) rfl
theorem lk_X2_76 : Cond.methodLink RX2 76 yX2_plugPower ∈ bz_tbl := bz_one 481 (by decide +kernel) rfl
theorem lk_X2_86 : Cond.methodLink RX2 86 yX2_multiply ∈ bz_tbl := bz_one 486 (by decide +kernel) rfl
theorem lk_X2_90 : Cond.methodLink RX2 90 arraycopyName ∈ bz_tbl := bz_one 487 (by decide +kernel) rfl
theorem lk_L_87 : Cond.methodLink RL 87 yX3_image ∈ bz_tbl := bz_one 488 (by decide +kernel) rfl
theorem lk_L_91 : Cond.methodLink RL 91 yX3_restore ∈ bz_tbl := bz_one 492 (by decide +kernel) rfl
theorem lk_L_95 : Cond.methodLink RL 95 yX3_count ∈ bz_tbl := bz_one 496 (by decide +kernel) rfl
theorem lk_X3_171 : Cond.methodLink RX3 171 yX3_filledSlots ∈ bz_tbl := bz_one 500 (by decide +kernel) rfl
theorem lk_L_12 : Cond.methodLink RL 12 yX4_init ∈ bz_tbl := bz_one 507 (by decide +kernel) rfl
theorem lk_X4_67 : Cond.methodLink RX4 67 yX4_isFalling ∈ bz_tbl := bz_one 512 (by decide +kernel) rfl
theorem lk_X4_71 : Cond.methodLink RX4 71 yX4_layPartition ∈ bz_tbl := bz_one 515 (by decide +kernel) rfl
theorem lk_X4_83 : Cond.methodLink RX4 83 yX4_figure ∈ bz_tbl := bz_one 519 (by decide +kernel) rfl
theorem lk_X4_87 : Cond.methodLink RX4 87 yX4_key ∈ bz_tbl := bz_one 522 (by decide +kernel) rfl
theorem lk_X4_75 : Cond.methodLink RX4 75 yX4_at ∈ bz_tbl := bz_one 525 (by decide +kernel) rfl
theorem lk_X4_79 : Cond.methodLink RX4 79 yX4_layProduct ∈ bz_tbl := bz_one 528 (by decide +kernel) rfl
theorem lk_X4_94 : Cond.methodLink RX4 94 yX4_lengthOf ∈ bz_tbl := bz_one 532 (by decide +kernel) rfl
theorem lk_X4_91 : Cond.methodLink RX4 91 yX4_partOf ∈ bz_tbl := bz_one 536 (by decide +kernel) rfl
theorem lk_X4_97 : Cond.methodLink RX4 97 yX4_multiply ∈ bz_tbl := bz_one 540 (by decide +kernel) rfl
theorem lk_L_17 : Cond.methodLink RL 17 yX4_part ∈ bz_tbl := bz_one 602 (by decide +kernel) rfl
theorem lk_X4_116 : Cond.methodLink RX4 116 yX4_isPartition ∈ bz_tbl := bz_one 606 (by decide +kernel) rfl
theorem lk_X4_101 : Cond.methodLink RX4 101 yX4_in ∈ bz_tbl := bz_one 609 (by decide +kernel) rfl
theorem lk_L_21 : Cond.methodLink RL 21 yX4_about ∈ bz_tbl := bz_one 612 (by decide +kernel) rfl
theorem lk_X4_126 : Cond.methodLink RX4 126 yX4_conjugate ∈ bz_tbl := bz_one 616 (by decide +kernel) rfl
theorem lk_X4_129 : Cond.methodLink RX4 129 yX4_z ∈ bz_tbl := bz_one 620 (by decide +kernel) rfl
theorem lk_X4_123 : Cond.methodLink RX4 123 yX4_alike ∈ bz_tbl := bz_one 624 (by decide +kernel) rfl
theorem lk_X4_120 : Cond.methodLink RX4 120 yX4_timesOf ∈ bz_tbl := bz_one 628 (by decide +kernel) rfl
theorem lk_X4_113 : Cond.methodLink RX4 113 yX4_fillings ∈ bz_tbl := bz_one 632 (by decide +kernel) rfl
theorem lk_X4_105 : Cond.methodLink RX4 105 yX4_isFilled ∈ bz_tbl := bz_one 636 (by decide +kernel) rfl
theorem lk_L_25 : Cond.methodLink RL 25 yX4_kostka ∈ bz_tbl := bz_one 640 (by decide +kernel) rfl
theorem lk_L_33 : Cond.methodLink RL 33 yX4_above ∈ bz_tbl := bz_one 644 (by decide +kernel) rfl
theorem lk_L_29 : Cond.methodLink RL 29 yX4_character ∈ bz_tbl := bz_one 648 (by decide +kernel) rfl
theorem lk_X4_134 : Cond.methodLink RX4 134 yX4_layTableaux ∈ bz_tbl := bz_one 652 (by decide +kernel) rfl
theorem lk_X4_148 : Cond.methodLink RX4 148 yX4_scalarOf ∈ bz_tbl := bz_one 656 (by decide +kernel) rfl
theorem lk_X4_144 : Cond.methodLink RX4 144 yX4_layFound ∈ bz_tbl := bz_one 660 (by decide +kernel) rfl
theorem lk_X4_137 : Cond.methodLink RX4 137 yX4_takeOff ∈ bz_tbl := bz_one 665 (by decide +kernel) rfl
theorem lk_X4_141 : Cond.methodLink RX4 141 yX4_layComplete ∈ bz_tbl := bz_one 669 (by decide +kernel) rfl
theorem lk_L_38 : Cond.methodLink RL 38 yX4_put ∈ bz_tbl := bz_one 673 (by decide +kernel) rfl
theorem lk_X4_156 : Cond.methodLink RX4 156 yX4_isSlot ∈ bz_tbl := bz_one 677 (by decide +kernel) rfl
theorem lk_X4_159 : Cond.methodLink RX4 159 yX4_clearWork ∈ bz_tbl := bz_one 680 (by decide +kernel) rfl
theorem lk_X4_162 : Cond.methodLink RX4 162 yX4_addMember ∈ bz_tbl := bz_one 684 (by decide +kernel) rfl
theorem lk_X4_165 : Cond.methodLink RX4 165 yX4_keep ∈ bz_tbl := bz_one 688 (by decide +kernel) rfl
theorem lk_L_43 : Cond.methodLink RL 43 yX4_add ∈ bz_tbl := bz_one 694 (by decide +kernel) rfl
theorem lk_L_48 : Cond.methodLink RL 48 yX4_degree ∈ bz_tbl := bz_one 698 (by decide +kernel) rfl
theorem lk_X4_168 : Cond.methodLink RX4 168 yX4_degreeOf ∈ bz_tbl := bz_one 702 (by decide +kernel) rfl
theorem lk_L_53 : Cond.methodLink RL 53 yX4_coefficient ∈ bz_tbl := bz_one 706 (by decide +kernel) rfl
theorem lk_X4_175 : Cond.methodLink RX4 175 yX4_common ∈ bz_tbl := bz_one 712 (by decide +kernel) rfl
theorem lk_L_57 : Cond.methodLink RL 57 yX4_next ∈ bz_tbl := bz_one 715 (by decide +kernel) rfl
theorem lk_L_61 : Cond.methodLink RL 61 yX4_value ∈ bz_tbl := bz_one 719 (by decide +kernel) rfl
theorem lk_X4_179 : Cond.methodLink RX4 179 yX4_power ∈ bz_tbl := bz_one 723 (by decide +kernel) rfl
theorem lk_L_66 : Cond.methodLink RL 66 yX4_scalar ∈ bz_tbl := bz_one 726 (by decide +kernel) rfl
theorem lk_L_70 : Cond.methodLink RL 70 yX4_times ∈ bz_tbl := bz_one 730 (by decide +kernel) rfl
theorem lk_L_74 : Cond.methodLink RL 74 yX4_turn ∈ bz_tbl := bz_one 734 (by decide +kernel) rfl
theorem lk_L_78 : Cond.methodLink RL 78 yX4_strip ∈ bz_tbl := bz_one 738 (by decide +kernel) rfl
theorem lk_L_82 : Cond.methodLink RL 82 yX4_meet ∈ bz_tbl := bz_one 742 (by decide +kernel) rfl
theorem lk_X4_183 : Cond.methodLink RX4 183 yX4_layMet ∈ bz_tbl := bz_one 746 (by decide +kernel) rfl
theorem lk_L_86 : Cond.methodLink RL 86 yX4_plug ∈ bz_tbl := bz_one 750 (by decide +kernel) rfl
theorem lk_X4_190 : Cond.methodLink RX4 190 yX4_isWithin ∈ bz_tbl := bz_one 754 (by decide +kernel) rfl
theorem lk_X4_193 : Cond.methodLink RX4 193 yX4_layPlugged ∈ bz_tbl := bz_one 758 (by decide +kernel) rfl
theorem lk_X4_187 : Cond.methodLink RX4 187 yX4_layPower ∈ bz_tbl := bz_one 762 (by decide +kernel) rfl
theorem lk_L_90 : Cond.methodLink RL 90 yX4_image ∈ bz_tbl := bz_one 766 (by decide +kernel) rfl
theorem lk_L_94 : Cond.methodLink RL 94 yX4_restore ∈ bz_tbl := bz_one 770 (by decide +kernel) rfl
theorem lk_L_98 : Cond.methodLink RL 98 yX4_count ∈ bz_tbl := bz_one 774 (by decide +kernel) rfl
theorem lk_X4_196 : Cond.methodLink RX4 196 yX4_ofDegree ∈ bz_tbl := bz_one 778 (by decide +kernel) rfl
theorem lk_X3_9 : Cond.methodLinkNest RX3 9 yX1_init "BasisMoves" ∈ bz_nst := bz_oneN 82 (by decide +kernel) rfl
theorem lk_X1_54 : Cond.methodLinkNest RX1 54 yX3_isPartition "BasisMoves" ∈ bz_nst := bz_oneN 94 (by decide +kernel) rfl
theorem lk_X3_18 : Cond.methodLinkNest RX3 18 yX0_init "BasisMoves" ∈ bz_nst := bz_oneN 182 (by decide +kernel) rfl
theorem lk_X3_27 : Cond.methodLinkNest RX3 27 yX2_init "BasisMoves" ∈ bz_nst := bz_oneN 199 (by decide +kernel) rfl
theorem lk_X3_58 : Cond.methodLinkNest RX3 58 yX1_partAt "BasisMoves" ∈ bz_nst := bz_oneN 253 (by decide +kernel) rfl
theorem lk_X3_75 : Cond.methodLinkNest RX3 75 yX1_endOf "BasisMoves" ∈ bz_nst := bz_oneN 258 (by decide +kernel) rfl
theorem lk_X3_79 : Cond.methodLinkNest RX3 79 yX1_kostkaOf "BasisMoves" ∈ bz_nst := bz_oneN 259 (by decide +kernel) rfl
theorem lk_X3_82 : Cond.methodLinkNest RX3 82 yX1_characterOf "BasisMoves" ∈ bz_nst := bz_oneN 268 (by decide +kernel) rfl
theorem lk_X3_85 : Cond.methodLinkNest RX3 85 yX1_isAbove "BasisMoves" ∈ bz_nst := bz_oneN 273 (by decide +kernel) rfl
theorem lk_X3_107 : Cond.methodLinkNest RX3 107 yX0_toWeights "BasisMoves" ∈ bz_nst := bz_oneN 294 (by decide +kernel) rfl
theorem lk_X0_60 : Cond.methodLinkNest RX0 60 yX1_endOf "BasisMoves" ∈ bz_nst := bz_oneN 309 (by decide +kernel) rfl
theorem lk_X0_66 : Cond.methodLinkNest RX0 66 yX1_kostkaOf "BasisMoves" ∈ bz_nst := bz_oneN 310 (by decide +kernel) rfl
theorem lk_X0_82 : Cond.methodLinkNest RX0 82 yX3_isPartition "BasisMoves" ∈ bz_nst := bz_oneN 315 (by decide +kernel) rfl
theorem lk_X0_56 : Cond.methodLinkNest RX0 56 yX1_startOf "BasisMoves" ∈ bz_nst := bz_oneN 324 (by decide +kernel) rfl
theorem lk_X0_73 : Cond.methodLinkNest RX0 73 yX1_characterOf "BasisMoves" ∈ bz_nst := bz_oneN 325 (by decide +kernel) rfl
theorem lk_X3_122 : Cond.methodLinkNest RX3 122 yX0_fromWeights "BasisMoves" ∈ bz_nst := bz_oneN 357 (by decide +kernel) rfl
theorem lk_X3_133 : Cond.methodLinkNest RX3 133 yX2_valueAt "BasisMoves" ∈ bz_nst := bz_oneN 389 (by decide +kernel) rfl
theorem lk_X2_99 : Cond.methodLinkNest RX2 99 yX1_markOf "BasisMoves" ∈ bz_nst := bz_oneN 393 (by decide +kernel) rfl
theorem lk_X2_102 : Cond.methodLinkNest RX2 102 yX1_numberOf "BasisMoves" ∈ bz_nst := bz_oneN 394 (by decide +kernel) rfl
theorem lk_X2_55 : Cond.methodLinkNest RX2 55 yX3_isPartition "BasisMoves" ∈ bz_nst := bz_oneN 395 (by decide +kernel) rfl
theorem lk_X3_137 : Cond.methodLinkNest RX3 137 yX2_scalarOf "BasisMoves" ∈ bz_nst := bz_oneN 403 (by decide +kernel) rfl
theorem lk_X3_145 : Cond.methodLinkNest RX3 145 yX2_multiply "BasisMoves" ∈ bz_nst := bz_oneN 414 (by decide +kernel) rfl
theorem lk_X2_47 : Cond.methodLinkNest RX2 47 yX1_endOf "BasisMoves" ∈ bz_nst := bz_oneN 423 (by decide +kernel) rfl
theorem lk_X2_51 : Cond.methodLinkNest RX2 51 yX1_joined "BasisMoves" ∈ bz_nst := bz_oneN 424 (by decide +kernel) rfl
theorem lk_X3_178 : Cond.methodLinkNest RX3 178 yX2_divideByCommon "BasisMoves" ∈ bz_nst := bz_oneN 436 (by decide +kernel) rfl
theorem lk_X3_152 : Cond.methodLinkNest RX3 152 yX2_stripOff "BasisMoves" ∈ bz_nst := bz_oneN 445 (by decide +kernel) rfl
theorem lk_X3_155 : Cond.methodLinkNest RX3 155 yX2_meetWith "BasisMoves" ∈ bz_nst := bz_oneN 461 (by decide +kernel) rfl
theorem lk_X3_162 : Cond.methodLinkNest RX3 162 yX2_plugWith "BasisMoves" ∈ bz_nst := bz_oneN 469 (by decide +kernel) rfl
theorem lk_X2_96 : Cond.methodLinkNest RX2 96 yX1_multiplied "BasisMoves" ∈ bz_nst := bz_oneN 477 (by decide +kernel) rfl
theorem lk_X2_83 : Cond.methodLinkNest RX2 83 yX1_partAt "BasisMoves" ∈ bz_nst := bz_oneN 485 (by decide +kernel) rfl
theorem lk_X3_175 : Cond.methodLinkNest RX3 175 yX1_startOf "BasisMoves" ∈ bz_nst := bz_oneN 504 (by decide +kernel) rfl
theorem wf_X0 : ∀ w ∈ u_ws RX0 TX0 3, w ∈ bz_tbl := bz_sub [189, 191, 193] (by decide +kernel) (by decide +kernel)
theorem wf_X1 : ∀ w ∈ u_ws RX1 TX1 8, w ∈ bz_tbl := bz_sub [162, 164, 166, 168, 170, 172, 174, 176] (by decide +kernel) (by decide +kernel)
theorem wf_X2 : ∀ w ∈ u_ws RX2 TX2 4, w ∈ bz_tbl := bz_sub [209, 211, 213, 215] (by decide +kernel) (by decide +kernel)
theorem wf_X3 : ∀ w ∈ u_ws RX3 TX3 9, w ∈ bz_tbl := bz_sub [228, 230, 232, 234, 236, 238, 240, 242, 244] (by decide +kernel) (by decide +kernel)
theorem wf_X4 : ∀ w ∈ u_ws RX4 TX4 19, w ∈ bz_tbl := bz_sub [563, 565, 567, 569, 571, 573, 575, 577, 579, 581, 583, 585, 587, 589, 591, 593, 595, 597, 599] (by decide +kernel) (by decide +kernel)
theorem fs_X1_61 : Cond.fieldLink RX1 61 RX1 "PARTS" "[I" ∈ bz_tbl := bz_one 100 (by decide +kernel) rfl
theorem fs_X1_51 : Cond.fieldLink RX1 51 RX1 "STARTS" "[I" ∈ bz_tbl := bz_one 116 (by decide +kernel) rfl
theorem fl_X1_9 : bz_fl RX1 9 1 0 := ⟨RX1, TX1, 8, rfl, wf_X1, by decide, Or.inl (bz_one 144 (by decide +kernel) rfl)⟩
theorem fl_X1_15 : bz_fl RX1 15 1 1 := ⟨RX1, TX1, 8, rfl, wf_X1, by decide, Or.inl (bz_one 148 (by decide +kernel) rfl)⟩
theorem fl_X1_18 : bz_fl RX1 18 1 2 := ⟨RX1, TX1, 8, rfl, wf_X1, by decide, Or.inl (bz_one 151 (by decide +kernel) rfl)⟩
theorem fl_X1_21 : bz_fl RX1 21 1 3 := ⟨RX1, TX1, 8, rfl, wf_X1, by decide, Or.inl (bz_one 152 (by decide +kernel) rfl)⟩
theorem fl_X1_24 : bz_fl RX1 24 1 4 := ⟨RX1, TX1, 8, rfl, wf_X1, by decide, Or.inl (bz_one 155 (by decide +kernel) rfl)⟩
theorem fl_X1_27 : bz_fl RX1 27 1 5 := ⟨RX1, TX1, 8, rfl, wf_X1, by decide, Or.inl (bz_one 159 (by decide +kernel) rfl)⟩
theorem fl_X1_30 : bz_fl RX1 30 1 6 := ⟨RX1, TX1, 8, rfl, wf_X1, by decide, Or.inl (bz_one 160 (by decide +kernel) rfl)⟩
theorem fl_X1_33 : bz_fl RX1 33 1 7 := ⟨RX1, TX1, 8, rfl, wf_X1, by decide, Or.inl (bz_one 161 (by decide +kernel) rfl)⟩
theorem fl_X0_18 : bz_fl RX0 18 0 0 := ⟨RX0, TX0, 3, rfl, wf_X0, by decide, Or.inl (bz_one 186 (by decide +kernel) rfl)⟩
theorem fl_X0_9 : bz_fl RX0 9 0 1 := ⟨RX0, TX0, 3, rfl, wf_X0, by decide, Or.inl (bz_one 187 (by decide +kernel) rfl)⟩
theorem fl_X0_15 : bz_fl RX0 15 0 2 := ⟨RX0, TX0, 3, rfl, wf_X0, by decide, Or.inl (bz_one 188 (by decide +kernel) rfl)⟩
theorem fl_X2_23 : bz_fl RX2 23 2 0 := ⟨RX2, TX2, 4, rfl, wf_X2, by decide, Or.inl (bz_one 205 (by decide +kernel) rfl)⟩
theorem fl_X2_11 : bz_fl RX2 11 2 1 := ⟨RX2, TX2, 4, rfl, wf_X2, by decide, Or.inl (bz_one 206 (by decide +kernel) rfl)⟩
theorem fl_X2_16 : bz_fl RX2 16 2 2 := ⟨RX2, TX2, 4, rfl, wf_X2, by decide, Or.inl (bz_one 207 (by decide +kernel) rfl)⟩
theorem fl_X2_20 : bz_fl RX2 20 2 3 := ⟨RX2, TX2, 4, rfl, wf_X2, by decide, Or.inl (bz_one 208 (by decide +kernel) rfl)⟩
theorem fl_X3_10 : bz_fl RX3 10 3 0 := ⟨RX3, TX3, 9, rfl, wf_X3, by decide, Or.inl (bz_one 219 (by decide +kernel) rfl)⟩
theorem fl_X3_21 : bz_fl RX3 21 3 1 := ⟨RX3, TX3, 9, rfl, wf_X3, by decide, Or.inl (bz_one 220 (by decide +kernel) rfl)⟩
theorem fl_X3_28 : bz_fl RX3 28 3 2 := ⟨RX3, TX3, 9, rfl, wf_X3, by decide, Or.inl (bz_one 221 (by decide +kernel) rfl)⟩
theorem fl_X3_34 : bz_fl RX3 34 3 3 := ⟨RX3, TX3, 9, rfl, wf_X3, by decide, Or.inl (bz_one 222 (by decide +kernel) rfl)⟩
theorem fl_X3_37 : bz_fl RX3 37 3 4 := ⟨RX3, TX3, 9, rfl, wf_X3, by decide, Or.inl (bz_one 223 (by decide +kernel) rfl)⟩
theorem fl_X3_40 : bz_fl RX3 40 3 5 := ⟨RX3, TX3, 9, rfl, wf_X3, by decide, Or.inl (bz_one 224 (by decide +kernel) rfl)⟩
theorem fl_X3_44 : bz_fl RX3 44 3 6 := ⟨RX3, TX3, 9, rfl, wf_X3, by decide, Or.inl (bz_one 225 (by decide +kernel) rfl)⟩
theorem fl_X3_48 : bz_fl RX3 48 3 7 := ⟨RX3, TX3, 9, rfl, wf_X3, by decide, Or.inl (bz_one 226 (by decide +kernel) rfl)⟩
theorem fl_X3_51 : bz_fl RX3 51 3 8 := ⟨RX3, TX3, 9, rfl, wf_X3, by decide, Or.inl (bz_one 227 (by decide +kernel) rfl)⟩
theorem fl_X4_7 : bz_fl RX4 7 4 0 := ⟨RX4, TX4, 19, rfl, wf_X4, by decide, Or.inl (bz_one 544 (by decide +kernel) rfl)⟩
theorem fl_X4_13 : bz_fl RX4 13 4 1 := ⟨RX4, TX4, 19, rfl, wf_X4, by decide, Or.inl (bz_one 545 (by decide +kernel) rfl)⟩
theorem fl_X4_16 : bz_fl RX4 16 4 2 := ⟨RX4, TX4, 19, rfl, wf_X4, by decide, Or.inl (bz_one 546 (by decide +kernel) rfl)⟩
theorem fl_X4_19 : bz_fl RX4 19 4 3 := ⟨RX4, TX4, 19, rfl, wf_X4, by decide, Or.inl (bz_one 547 (by decide +kernel) rfl)⟩
theorem fl_X4_109 : bz_fl RX4 109 4 4 := ⟨RX4, TX4, 19, rfl, wf_X4, by decide, Or.inl (bz_one 548 (by decide +kernel) rfl)⟩
theorem fl_X4_23 : bz_fl RX4 23 4 5 := ⟨RX4, TX4, 19, rfl, wf_X4, by decide, Or.inl (bz_one 549 (by decide +kernel) rfl)⟩
theorem fl_X4_26 : bz_fl RX4 26 4 6 := ⟨RX4, TX4, 19, rfl, wf_X4, by decide, Or.inl (bz_one 550 (by decide +kernel) rfl)⟩
theorem fl_X4_29 : bz_fl RX4 29 4 7 := ⟨RX4, TX4, 19, rfl, wf_X4, by decide, Or.inl (bz_one 551 (by decide +kernel) rfl)⟩
theorem fl_X4_32 : bz_fl RX4 32 4 8 := ⟨RX4, TX4, 19, rfl, wf_X4, by decide, Or.inl (bz_one 552 (by decide +kernel) rfl)⟩
theorem fl_X4_35 : bz_fl RX4 35 4 9 := ⟨RX4, TX4, 19, rfl, wf_X4, by decide, Or.inl (bz_one 553 (by decide +kernel) rfl)⟩
theorem fl_X4_38 : bz_fl RX4 38 4 10 := ⟨RX4, TX4, 19, rfl, wf_X4, by decide, Or.inl (bz_one 554 (by decide +kernel) rfl)⟩
theorem fl_X4_41 : bz_fl RX4 41 4 11 := ⟨RX4, TX4, 19, rfl, wf_X4, by decide, Or.inl (bz_one 555 (by decide +kernel) rfl)⟩
theorem fl_X4_44 : bz_fl RX4 44 4 12 := ⟨RX4, TX4, 19, rfl, wf_X4, by decide, Or.inl (bz_one 556 (by decide +kernel) rfl)⟩
theorem fl_X4_47 : bz_fl RX4 47 4 13 := ⟨RX4, TX4, 19, rfl, wf_X4, by decide, Or.inl (bz_one 557 (by decide +kernel) rfl)⟩
theorem fl_X4_50 : bz_fl RX4 50 4 14 := ⟨RX4, TX4, 19, rfl, wf_X4, by decide, Or.inl (bz_one 558 (by decide +kernel) rfl)⟩
theorem fl_X4_53 : bz_fl RX4 53 4 15 := ⟨RX4, TX4, 19, rfl, wf_X4, by decide, Or.inl (bz_one 559 (by decide +kernel) rfl)⟩
theorem fl_X4_56 : bz_fl RX4 56 4 16 := ⟨RX4, TX4, 19, rfl, wf_X4, by decide, Or.inl (bz_one 560 (by decide +kernel) rfl)⟩
theorem fl_X4_59 : bz_fl RX4 59 4 17 := ⟨RX4, TX4, 19, rfl, wf_X4, by decide, Or.inl (bz_one 561 (by decide +kernel) rfl)⟩
theorem fl_X4_62 : bz_fl RX4 62 4 18 := ⟨RX4, TX4, 19, rfl, wf_X4, by decide, Or.inl (bz_one 562 (by decide +kernel) rfl)⟩
theorem fl_X3_62 : bz_fl RX3 62 1 0 := ⟨RX1, TX1, 8, rfl, wf_X1, by decide, Or.inr ⟨"BasisMoves", bz_oneN 145 (by decide +kernel) rfl⟩⟩
theorem fl_X0_50 : bz_fl RX0 50 1 0 := ⟨RX1, TX1, 8, rfl, wf_X1, by decide, Or.inr ⟨"BasisMoves", bz_oneN 146 (by decide +kernel) rfl⟩⟩
theorem fl_X2_41 : bz_fl RX2 41 1 0 := ⟨RX1, TX1, 8, rfl, wf_X1, by decide, Or.inr ⟨"BasisMoves", bz_oneN 147 (by decide +kernel) rfl⟩⟩
theorem fl_X3_66 : bz_fl RX3 66 1 1 := ⟨RX1, TX1, 8, rfl, wf_X1, by decide, Or.inr ⟨"BasisMoves", bz_oneN 149 (by decide +kernel) rfl⟩⟩
theorem fl_X2_80 : bz_fl RX2 80 1 1 := ⟨RX1, TX1, 8, rfl, wf_X1, by decide, Or.inr ⟨"BasisMoves", bz_oneN 150 (by decide +kernel) rfl⟩⟩
theorem fl_X3_69 : bz_fl RX3 69 1 3 := ⟨RX1, TX1, 8, rfl, wf_X1, by decide, Or.inr ⟨"BasisMoves", bz_oneN 153 (by decide +kernel) rfl⟩⟩
theorem fl_X0_79 : bz_fl RX0 79 1 3 := ⟨RX1, TX1, 8, rfl, wf_X1, by decide, Or.inr ⟨"BasisMoves", bz_oneN 154 (by decide +kernel) rfl⟩⟩
theorem fl_X3_72 : bz_fl RX3 72 1 4 := ⟨RX1, TX1, 8, rfl, wf_X1, by decide, Or.inr ⟨"BasisMoves", bz_oneN 156 (by decide +kernel) rfl⟩⟩
theorem fl_X2_61 : bz_fl RX2 61 1 4 := ⟨RX1, TX1, 8, rfl, wf_X1, by decide, Or.inr ⟨"BasisMoves", bz_oneN 157 (by decide +kernel) rfl⟩⟩
theorem fl_X0_76 : bz_fl RX0 76 1 4 := ⟨RX1, TX1, 8, rfl, wf_X1, by decide, Or.inr ⟨"BasisMoves", bz_oneN 158 (by decide +kernel) rfl⟩⟩
theorem kl_X3_95 : Cond.constantLong RX3 95 (1000) ∈ bz_tbl := bz_one 287 (by decide +kernel) rfl
theorem kl_X3_182 : Cond.constantLong RX3 182 (100000) ∈ bz_tbl := bz_one 334 (by decide +kernel) rfl
theorem kl_X3_118 : Cond.constantLong RX3 118 (-4000000000000000001) ∈ bz_tbl := bz_one 355 (by decide +kernel) rfl
theorem kl_X3_120 : Cond.constantLong RX3 120 (-4000000000000000002) ∈ bz_tbl := bz_one 356 (by decide +kernel) rfl
theorem kl_X3_125 : Cond.constantLong RX3 125 (720) ∈ bz_tbl := bz_one 373 (by decide +kernel) rfl
theorem kl_X3_131 : Cond.constantLong RX3 131 (9) ∈ bz_tbl := bz_one 388 (by decide +kernel) rfl
theorem kl_X2_59 : Cond.constantLong RX2 59 (720) ∈ bz_tbl := bz_one 431 (by decide +kernel) rfl
theorem ki_X4_66 : Cond.constant RX4 66 (nI 117648) ∈ bz_tbl := bz_one 511 (by decide +kernel) rfl
theorem kl_X4_132 : Cond.constantLong RX4 132 (720) ∈ bz_tbl := bz_one 664 (by decide +kernel) rfl
theorem kl_X4_152 : Cond.constantLong RX4 152 (100000) ∈ bz_tbl := bz_one 692 (by decide +kernel) rfl
theorem kl_X4_154 : Cond.constantLong RX4 154 (-100000) ∈ bz_tbl := bz_one 693 (by decide +kernel) rfl
theorem kl_X4_171 : Cond.constantLong RX4 171 (-4000000000000000001) ∈ bz_tbl := bz_one 710 (by decide +kernel) rfl
theorem kl_X4_173 : Cond.constantLong RX4 173 (-4000000000000000002) ∈ bz_tbl := bz_one 711 (by decide +kernel) rfl
theorem wac_n : Cond.native arraycopyName ∈ bz_tbl := bz_one 300 (by decide +kernel) rfl
theorem wac_s : Cond.static arraycopyName ∈ bz_tbl := bz_one 299 (by decide +kernel) rfl
theorem wmin_s : Cond.static Lib.Math.min.name ∈ bz_tbl := bz_one 138 (by decide +kernel) rfl
theorem wmin_c : Cond.code Lib.Math.min.name Lib.Math.min.code 2 (some .int) ∈ bz_tbl := bz_one 139 (by decide +kernel) rfl
theorem wabs_s : Cond.static Lib.MathLoose.abs_long.x ∈ bz_tbl := bz_one 378 (by decide +kernel) rfl
theorem wabs_c : Cond.code Lib.MathLoose.abs_long.x Lib.MathLoose.abs_long.code 2 (some .long) ∈ bz_tbl := bz_one 379 (by decide +kernel) rfl
theorem kc_bipush_m9 : (Int8.ofInt (-9)).toInt32 = (-9) := by decide
theorem kc_bipush_m6 : (Int8.ofInt (-6)).toInt32 = (-6) := by decide
theorem kc_bipush_m4 : (Int8.ofInt (-4)).toInt32 = (-4) := by decide
theorem kc_bipush_m3 : (Int8.ofInt (-3)).toInt32 = (-3) := by decide
theorem kc_bipush_m2 : (Int8.ofInt (-2)).toInt32 = (-2) := by decide
theorem kc_bipush_6 : (Int8.ofInt (6)).toInt32 = (nI 6) := by decide
theorem kc_bipush_7 : (Int8.ofInt (7)).toInt32 = (nI 7) := by decide
theorem kc_bipush_8 : (Int8.ofInt (8)).toInt32 = (nI 8) := by decide
theorem kc_bipush_9 : (Int8.ofInt (9)).toInt32 = (nI 9) := by decide
theorem kc_bipush_10 : (Int8.ofInt (10)).toInt32 = (nI 10) := by decide
theorem kc_bipush_16 : (Int8.ofInt (16)).toInt32 = (nI 16) := by decide
theorem kc_bipush_20 : (Int8.ofInt (20)).toInt32 = (nI 20) := by decide
theorem kc_bipush_26 : (Int8.ofInt (26)).toInt32 = (nI 26) := by decide
theorem kc_bipush_28 : (Int8.ofInt (28)).toInt32 = (nI 28) := by decide
theorem kc_bipush_29 : (Int8.ofInt (29)).toInt32 = (nI 29) := by decide
theorem kc_bipush_30 : (Int8.ofInt (30)).toInt32 = (nI 30) := by decide
theorem kc_bipush_31 : (Int8.ofInt (31)).toInt32 = (nI 31) := by decide
theorem kc_bipush_84 : (Int8.ofInt (84)).toInt32 = (nI 84) := by decide
theorem kc_bipush_100 : (Int8.ofInt (100)).toInt32 = (nI 100) := by decide
theorem kc_iconst_m1 : Int32.ofInt (-1) = (-1) := by decide
theorem kc_iconst_0 : Int32.ofInt (0) = (nI 0) := by decide
theorem kc_iconst_1 : Int32.ofInt (1) = (nI 1) := by decide
theorem kc_iconst_2 : Int32.ofInt (2) = (nI 2) := by decide
theorem kc_iconst_3 : Int32.ofInt (3) = (nI 3) := by decide
theorem kc_iconst_4 : Int32.ofInt (4) = (nI 4) := by decide
theorem kc_iconst_5 : Int32.ofInt (5) = (nI 5) := by decide
theorem kc_sipush_m1000 : (Int16.ofInt (-1000)).toInt32 = (-1000) := by decide
theorem kc_sipush_168 : (Int16.ofInt (168)).toInt32 = (nI 168) := by decide
theorem kc_sipush_180 : (Int16.ofInt (180)).toInt32 = (nI 180) := by decide
theorem kc_sipush_200 : (Int16.ofInt (200)).toInt32 = (nI 200) := by decide
theorem kc_sipush_240 : (Int16.ofInt (240)).toInt32 = (nI 240) := by decide
theorem kc_sipush_336 : (Int16.ofInt (336)).toInt32 = (nI 336) := by decide
theorem kc_sipush_480 : (Int16.ofInt (480)).toInt32 = (nI 480) := by decide
theorem kc_sipush_672 : (Int16.ofInt (672)).toInt32 = (nI 672) := by decide
theorem kc_sipush_720 : (Int16.ofInt (720)).toInt32 = (nI 720) := by decide
theorem kc_sipush_900 : (Int16.ofInt (900)).toInt32 = (nI 900) := by decide
theorem kc_sipush_1000 : (Int16.ofInt (1000)).toInt32 = (nI 1000) := by decide
theorem kc_sipush_4500 : (Int16.ofInt (4500)).toInt32 = (nI 4500) := by decide
theorem kc_lconst_0 : Int64.ofNat ((0 : Fin 2) : Nat) = 0 := by decide
theorem kc_lconst_1 : Int64.ofNat ((1 : Fin 2) : Nat) = 1 := by decide
end
section
section BZ6
variable {l : Launch} {ad : Nat → Nat} {K : bz_K} {n : Nat} {M M' : bz_M} {d d' : Nat} {r : Option Value} {σ σ' σ1 : bz_S} {pc idx z k ci b : Nat} {ls ls' : List (Option Value)} {st : List Value} {fl : List (Option Nat)} {qc : vw_C} {host : String}
theorem bz_cS1I {a1 : Value} {x : Int32} (hm : bz_mv M' 1) (hi : Cond.static M'.1 ∈ bz_tbl) (hlk : Cond.methodLink M.2.2.1 idx M'.1 ∈ bz_tbl) (hd : decode M.2.1 pc = .ok (.invokestatic idx, 3)) (hV : bz_V l ad K n M' d' (some (.int x)) σ1 0 ls' [] σ) (hdd : d' < d) (hent : bz_arg [a1] ++ List.replicate z none = ls') (hle : (lg_sl [a1]).length ≤ M'.2.2.2.1) (hrest : (st.map fun v => v.category).sum ≤ 8) (kk : bz_V l ad K n M d r σ' (pc + 3) ls (.int x :: st) σ1) : bz_V l ad K n M d r σ' pc ls (a1 :: st) σ := bz_callS (av := [a1]) hm hi hlk hd hdd rfl hent hle hrest hV kk
theorem bz_cS1U {a1 : Value} (hm : bz_mv M' 1) (hi : Cond.static M'.1 ∈ bz_tbl) (hlk : Cond.methodLink M.2.2.1 idx M'.1 ∈ bz_tbl) (hd : decode M.2.1 pc = .ok (.invokestatic idx, 3)) (hV : bz_V l ad K n M' d' none σ1 0 ls' [] σ) (hdd : d' < d) (hent : bz_arg [a1] ++ List.replicate z none = ls') (hle : (lg_sl [a1]).length ≤ M'.2.2.2.1) (hrest : (st.map fun v => v.category).sum ≤ 8) (kk : bz_V l ad K n M d r σ' (pc + 3) ls st σ1) : bz_V l ad K n M d r σ' pc ls (a1 :: st) σ := bz_callS (av := [a1]) hm hi hlk hd hdd rfl hent hle hrest hV kk
theorem bz_cS2I {a1 a2 : Value} {x : Int32} (hm : bz_mv M' 2) (hi : Cond.static M'.1 ∈ bz_tbl) (hlk : Cond.methodLink M.2.2.1 idx M'.1 ∈ bz_tbl) (hd : decode M.2.1 pc = .ok (.invokestatic idx, 3)) (hV : bz_V l ad K n M' d' (some (.int x)) σ1 0 ls' [] σ) (hdd : d' < d) (hent : bz_arg [a1, a2] ++ List.replicate z none = ls') (hle : (lg_sl [a1, a2]).length ≤ M'.2.2.2.1) (hrest : (st.map fun v => v.category).sum ≤ 8) (kk : bz_V l ad K n M d r σ' (pc + 3) ls (.int x :: st) σ1) : bz_V l ad K n M d r σ' pc ls (a2 :: a1 :: st) σ := bz_callS (av := [a1, a2]) hm hi hlk hd hdd rfl hent hle hrest hV kk
theorem bz_cS2L {a1 a2 : Value} {x : Int64} (hm : bz_mv M' 2) (hi : Cond.static M'.1 ∈ bz_tbl) (hlk : Cond.methodLink M.2.2.1 idx M'.1 ∈ bz_tbl) (hd : decode M.2.1 pc = .ok (.invokestatic idx, 3)) (hV : bz_V l ad K n M' d' (some (.long x)) σ1 0 ls' [] σ) (hdd : d' < d) (hent : bz_arg [a1, a2] ++ List.replicate z none = ls') (hle : (lg_sl [a1, a2]).length ≤ M'.2.2.2.1) (hrest : (st.map fun v => v.category).sum ≤ 8) (kk : bz_V l ad K n M d r σ' (pc + 3) ls (.long x :: st) σ1) : bz_V l ad K n M d r σ' pc ls (a2 :: a1 :: st) σ := bz_callS (av := [a1, a2]) hm hi hlk hd hdd rfl hent hle hrest hV kk
theorem bz_cS2U {a1 a2 : Value} (hm : bz_mv M' 2) (hi : Cond.static M'.1 ∈ bz_tbl) (hlk : Cond.methodLink M.2.2.1 idx M'.1 ∈ bz_tbl) (hd : decode M.2.1 pc = .ok (.invokestatic idx, 3)) (hV : bz_V l ad K n M' d' none σ1 0 ls' [] σ) (hdd : d' < d) (hent : bz_arg [a1, a2] ++ List.replicate z none = ls') (hle : (lg_sl [a1, a2]).length ≤ M'.2.2.2.1) (hrest : (st.map fun v => v.category).sum ≤ 8) (kk : bz_V l ad K n M d r σ' (pc + 3) ls st σ1) : bz_V l ad K n M d r σ' pc ls (a2 :: a1 :: st) σ := bz_callS (av := [a1, a2]) hm hi hlk hd hdd rfl hent hle hrest hV kk
theorem bz_cS3I {a1 a2 a3 : Value} {x : Int32} (hm : bz_mv M' 3) (hi : Cond.static M'.1 ∈ bz_tbl) (hlk : Cond.methodLink M.2.2.1 idx M'.1 ∈ bz_tbl) (hd : decode M.2.1 pc = .ok (.invokestatic idx, 3)) (hV : bz_V l ad K n M' d' (some (.int x)) σ1 0 ls' [] σ) (hdd : d' < d) (hent : bz_arg [a1, a2, a3] ++ List.replicate z none = ls') (hle : (lg_sl [a1, a2, a3]).length ≤ M'.2.2.2.1) (hrest : (st.map fun v => v.category).sum ≤ 8) (kk : bz_V l ad K n M d r σ' (pc + 3) ls (.int x :: st) σ1) : bz_V l ad K n M d r σ' pc ls (a3 :: a2 :: a1 :: st) σ := bz_callS (av := [a1, a2, a3]) hm hi hlk hd hdd rfl hent hle hrest hV kk
theorem bz_cSN1I {a1 : Value} {x : Int32} (hm : bz_mv M' 1) (hi : Cond.static M'.1 ∈ bz_tbl) (hlk : Cond.methodLinkNest M.2.2.1 idx M'.1 host ∈ bz_nst) (hd : decode M.2.1 pc = .ok (.invokestatic idx, 3)) (hV : bz_V l ad K n M' d' (some (.int x)) σ1 0 ls' [] σ) (hdd : d' < d) (hent : bz_arg [a1] ++ List.replicate z none = ls') (hle : (lg_sl [a1]).length ≤ M'.2.2.2.1) (hrest : (st.map fun v => v.category).sum ≤ 8) (kk : bz_V l ad K n M d r σ' (pc + 3) ls (.int x :: st) σ1) : bz_V l ad K n M d r σ' pc ls (a1 :: st) σ := bz_callSN (av := [a1]) hm hi hlk hd hdd rfl hent hle hrest hV kk
theorem bz_cSN1U {a1 : Value} (hm : bz_mv M' 1) (hi : Cond.static M'.1 ∈ bz_tbl) (hlk : Cond.methodLinkNest M.2.2.1 idx M'.1 host ∈ bz_nst) (hd : decode M.2.1 pc = .ok (.invokestatic idx, 3)) (hV : bz_V l ad K n M' d' none σ1 0 ls' [] σ) (hdd : d' < d) (hent : bz_arg [a1] ++ List.replicate z none = ls') (hle : (lg_sl [a1]).length ≤ M'.2.2.2.1) (hrest : (st.map fun v => v.category).sum ≤ 8) (kk : bz_V l ad K n M d r σ' (pc + 3) ls st σ1) : bz_V l ad K n M d r σ' pc ls (a1 :: st) σ := bz_callSN (av := [a1]) hm hi hlk hd hdd rfl hent hle hrest hV kk
theorem bz_cSN2L {a1 a2 : Value} {x : Int64} (hm : bz_mv M' 2) (hi : Cond.static M'.1 ∈ bz_tbl) (hlk : Cond.methodLinkNest M.2.2.1 idx M'.1 host ∈ bz_nst) (hd : decode M.2.1 pc = .ok (.invokestatic idx, 3)) (hV : bz_V l ad K n M' d' (some (.long x)) σ1 0 ls' [] σ) (hdd : d' < d) (hent : bz_arg [a1, a2] ++ List.replicate z none = ls') (hle : (lg_sl [a1, a2]).length ≤ M'.2.2.2.1) (hrest : (st.map fun v => v.category).sum ≤ 8) (kk : bz_V l ad K n M d r σ' (pc + 3) ls (.long x :: st) σ1) : bz_V l ad K n M d r σ' pc ls (a2 :: a1 :: st) σ := bz_callSN (av := [a1, a2]) hm hi hlk hd hdd rfl hent hle hrest hV kk
theorem bz_cV0I {x : Int32} (hm : bz_mv M' 0) (hi : bz_mi M') (hlk : Cond.methodLink M.2.2.1 idx M'.1 ∈ bz_tbl) (hd : decode M.2.1 pc = .ok (.invokevirtual idx, 3)) (hV : bz_V l ad K n M' d' (some (.int x)) σ1 0 ls' [] σ) (hdd : d' < d) (hs : bz_sh k = (4, ci, b, fl)) (hk : k < n) (hc : vwCl[ci]? = some qc) (hcn : qc.1 = M'.1.cls) (hent : bz_arg [.ref (ad k)] ++ List.replicate z none = ls') (hle : (lg_sl [.ref (ad k)]).length ≤ M'.2.2.2.1) (hrest : (st.map fun v => v.category).sum ≤ 8) (kk : bz_V l ad K n M d r σ' (pc + 3) ls (.int x :: st) σ1) : bz_V l ad K n M d r σ' pc ls (.ref (ad k) :: st) σ := bz_callV (av := []) hm hi hlk hd hdd hs hk hc hcn rfl hent hle hrest hV kk
theorem bz_cV0U (hm : bz_mv M' 0) (hi : bz_mi M') (hlk : Cond.methodLink M.2.2.1 idx M'.1 ∈ bz_tbl) (hd : decode M.2.1 pc = .ok (.invokevirtual idx, 3)) (hV : bz_V l ad K n M' d' none σ1 0 ls' [] σ) (hdd : d' < d) (hs : bz_sh k = (4, ci, b, fl)) (hk : k < n) (hc : vwCl[ci]? = some qc) (hcn : qc.1 = M'.1.cls) (hent : bz_arg [.ref (ad k)] ++ List.replicate z none = ls') (hle : (lg_sl [.ref (ad k)]).length ≤ M'.2.2.2.1) (hrest : (st.map fun v => v.category).sum ≤ 8) (kk : bz_V l ad K n M d r σ' (pc + 3) ls st σ1) : bz_V l ad K n M d r σ' pc ls (.ref (ad k) :: st) σ := bz_callV (av := []) hm hi hlk hd hdd hs hk hc hcn rfl hent hle hrest hV kk
theorem bz_cV1I {a1 : Value} {x : Int32} (hm : bz_mv M' 1) (hi : bz_mi M') (hlk : Cond.methodLink M.2.2.1 idx M'.1 ∈ bz_tbl) (hd : decode M.2.1 pc = .ok (.invokevirtual idx, 3)) (hV : bz_V l ad K n M' d' (some (.int x)) σ1 0 ls' [] σ) (hdd : d' < d) (hs : bz_sh k = (4, ci, b, fl)) (hk : k < n) (hc : vwCl[ci]? = some qc) (hcn : qc.1 = M'.1.cls) (hent : bz_arg [.ref (ad k), a1] ++ List.replicate z none = ls') (hle : (lg_sl [.ref (ad k), a1]).length ≤ M'.2.2.2.1) (hrest : (st.map fun v => v.category).sum ≤ 8) (kk : bz_V l ad K n M d r σ' (pc + 3) ls (.int x :: st) σ1) : bz_V l ad K n M d r σ' pc ls (a1 :: .ref (ad k) :: st) σ := bz_callV (av := [a1]) hm hi hlk hd hdd hs hk hc hcn rfl hent hle hrest hV kk
theorem bz_cV1U {a1 : Value} (hm : bz_mv M' 1) (hi : bz_mi M') (hlk : Cond.methodLink M.2.2.1 idx M'.1 ∈ bz_tbl) (hd : decode M.2.1 pc = .ok (.invokevirtual idx, 3)) (hV : bz_V l ad K n M' d' none σ1 0 ls' [] σ) (hdd : d' < d) (hs : bz_sh k = (4, ci, b, fl)) (hk : k < n) (hc : vwCl[ci]? = some qc) (hcn : qc.1 = M'.1.cls) (hent : bz_arg [.ref (ad k), a1] ++ List.replicate z none = ls') (hle : (lg_sl [.ref (ad k), a1]).length ≤ M'.2.2.2.1) (hrest : (st.map fun v => v.category).sum ≤ 8) (kk : bz_V l ad K n M d r σ' (pc + 3) ls st σ1) : bz_V l ad K n M d r σ' pc ls (a1 :: .ref (ad k) :: st) σ := bz_callV (av := [a1]) hm hi hlk hd hdd hs hk hc hcn rfl hent hle hrest hV kk
theorem bz_cV2I {a1 a2 : Value} {x : Int32} (hm : bz_mv M' 2) (hi : bz_mi M') (hlk : Cond.methodLink M.2.2.1 idx M'.1 ∈ bz_tbl) (hd : decode M.2.1 pc = .ok (.invokevirtual idx, 3)) (hV : bz_V l ad K n M' d' (some (.int x)) σ1 0 ls' [] σ) (hdd : d' < d) (hs : bz_sh k = (4, ci, b, fl)) (hk : k < n) (hc : vwCl[ci]? = some qc) (hcn : qc.1 = M'.1.cls) (hent : bz_arg [.ref (ad k), a1, a2] ++ List.replicate z none = ls') (hle : (lg_sl [.ref (ad k), a1, a2]).length ≤ M'.2.2.2.1) (hrest : (st.map fun v => v.category).sum ≤ 8) (kk : bz_V l ad K n M d r σ' (pc + 3) ls (.int x :: st) σ1) : bz_V l ad K n M d r σ' pc ls (a2 :: a1 :: .ref (ad k) :: st) σ := bz_callV (av := [a1, a2]) hm hi hlk hd hdd hs hk hc hcn rfl hent hle hrest hV kk
theorem bz_cV2L {a1 a2 : Value} {x : Int64} (hm : bz_mv M' 2) (hi : bz_mi M') (hlk : Cond.methodLink M.2.2.1 idx M'.1 ∈ bz_tbl) (hd : decode M.2.1 pc = .ok (.invokevirtual idx, 3)) (hV : bz_V l ad K n M' d' (some (.long x)) σ1 0 ls' [] σ) (hdd : d' < d) (hs : bz_sh k = (4, ci, b, fl)) (hk : k < n) (hc : vwCl[ci]? = some qc) (hcn : qc.1 = M'.1.cls) (hent : bz_arg [.ref (ad k), a1, a2] ++ List.replicate z none = ls') (hle : (lg_sl [.ref (ad k), a1, a2]).length ≤ M'.2.2.2.1) (hrest : (st.map fun v => v.category).sum ≤ 8) (kk : bz_V l ad K n M d r σ' (pc + 3) ls (.long x :: st) σ1) : bz_V l ad K n M d r σ' pc ls (a2 :: a1 :: .ref (ad k) :: st) σ := bz_callV (av := [a1, a2]) hm hi hlk hd hdd hs hk hc hcn rfl hent hle hrest hV kk
theorem bz_cV2U {a1 a2 : Value} (hm : bz_mv M' 2) (hi : bz_mi M') (hlk : Cond.methodLink M.2.2.1 idx M'.1 ∈ bz_tbl) (hd : decode M.2.1 pc = .ok (.invokevirtual idx, 3)) (hV : bz_V l ad K n M' d' none σ1 0 ls' [] σ) (hdd : d' < d) (hs : bz_sh k = (4, ci, b, fl)) (hk : k < n) (hc : vwCl[ci]? = some qc) (hcn : qc.1 = M'.1.cls) (hent : bz_arg [.ref (ad k), a1, a2] ++ List.replicate z none = ls') (hle : (lg_sl [.ref (ad k), a1, a2]).length ≤ M'.2.2.2.1) (hrest : (st.map fun v => v.category).sum ≤ 8) (kk : bz_V l ad K n M d r σ' (pc + 3) ls st σ1) : bz_V l ad K n M d r σ' pc ls (a2 :: a1 :: .ref (ad k) :: st) σ := bz_callV (av := [a1, a2]) hm hi hlk hd hdd hs hk hc hcn rfl hent hle hrest hV kk
theorem bz_cV3L {a1 a2 a3 : Value} {x : Int64} (hm : bz_mv M' 3) (hi : bz_mi M') (hlk : Cond.methodLink M.2.2.1 idx M'.1 ∈ bz_tbl) (hd : decode M.2.1 pc = .ok (.invokevirtual idx, 3)) (hV : bz_V l ad K n M' d' (some (.long x)) σ1 0 ls' [] σ) (hdd : d' < d) (hs : bz_sh k = (4, ci, b, fl)) (hk : k < n) (hc : vwCl[ci]? = some qc) (hcn : qc.1 = M'.1.cls) (hent : bz_arg [.ref (ad k), a1, a2, a3] ++ List.replicate z none = ls') (hle : (lg_sl [.ref (ad k), a1, a2, a3]).length ≤ M'.2.2.2.1) (hrest : (st.map fun v => v.category).sum ≤ 8) (kk : bz_V l ad K n M d r σ' (pc + 3) ls (.long x :: st) σ1) : bz_V l ad K n M d r σ' pc ls (a3 :: a2 :: a1 :: .ref (ad k) :: st) σ := bz_callV (av := [a1, a2, a3]) hm hi hlk hd hdd hs hk hc hcn rfl hent hle hrest hV kk
theorem bz_cV3U {a1 a2 a3 : Value} (hm : bz_mv M' 3) (hi : bz_mi M') (hlk : Cond.methodLink M.2.2.1 idx M'.1 ∈ bz_tbl) (hd : decode M.2.1 pc = .ok (.invokevirtual idx, 3)) (hV : bz_V l ad K n M' d' none σ1 0 ls' [] σ) (hdd : d' < d) (hs : bz_sh k = (4, ci, b, fl)) (hk : k < n) (hc : vwCl[ci]? = some qc) (hcn : qc.1 = M'.1.cls) (hent : bz_arg [.ref (ad k), a1, a2, a3] ++ List.replicate z none = ls') (hle : (lg_sl [.ref (ad k), a1, a2, a3]).length ≤ M'.2.2.2.1) (hrest : (st.map fun v => v.category).sum ≤ 8) (kk : bz_V l ad K n M d r σ' (pc + 3) ls st σ1) : bz_V l ad K n M d r σ' pc ls (a3 :: a2 :: a1 :: .ref (ad k) :: st) σ := bz_callV (av := [a1, a2, a3]) hm hi hlk hd hdd hs hk hc hcn rfl hent hle hrest hV kk
theorem bz_cV4I {a1 a2 a3 a4 : Value} {x : Int32} (hm : bz_mv M' 4) (hi : bz_mi M') (hlk : Cond.methodLink M.2.2.1 idx M'.1 ∈ bz_tbl) (hd : decode M.2.1 pc = .ok (.invokevirtual idx, 3)) (hV : bz_V l ad K n M' d' (some (.int x)) σ1 0 ls' [] σ) (hdd : d' < d) (hs : bz_sh k = (4, ci, b, fl)) (hk : k < n) (hc : vwCl[ci]? = some qc) (hcn : qc.1 = M'.1.cls) (hent : bz_arg [.ref (ad k), a1, a2, a3, a4] ++ List.replicate z none = ls') (hle : (lg_sl [.ref (ad k), a1, a2, a3, a4]).length ≤ M'.2.2.2.1) (hrest : (st.map fun v => v.category).sum ≤ 8) (kk : bz_V l ad K n M d r σ' (pc + 3) ls (.int x :: st) σ1) : bz_V l ad K n M d r σ' pc ls (a4 :: a3 :: a2 :: a1 :: .ref (ad k) :: st) σ := bz_callV (av := [a1, a2, a3, a4]) hm hi hlk hd hdd hs hk hc hcn rfl hent hle hrest hV kk
theorem bz_cV4L {a1 a2 a3 a4 : Value} {x : Int64} (hm : bz_mv M' 4) (hi : bz_mi M') (hlk : Cond.methodLink M.2.2.1 idx M'.1 ∈ bz_tbl) (hd : decode M.2.1 pc = .ok (.invokevirtual idx, 3)) (hV : bz_V l ad K n M' d' (some (.long x)) σ1 0 ls' [] σ) (hdd : d' < d) (hs : bz_sh k = (4, ci, b, fl)) (hk : k < n) (hc : vwCl[ci]? = some qc) (hcn : qc.1 = M'.1.cls) (hent : bz_arg [.ref (ad k), a1, a2, a3, a4] ++ List.replicate z none = ls') (hle : (lg_sl [.ref (ad k), a1, a2, a3, a4]).length ≤ M'.2.2.2.1) (hrest : (st.map fun v => v.category).sum ≤ 8) (kk : bz_V l ad K n M d r σ' (pc + 3) ls (.long x :: st) σ1) : bz_V l ad K n M d r σ' pc ls (a4 :: a3 :: a2 :: a1 :: .ref (ad k) :: st) σ := bz_callV (av := [a1, a2, a3, a4]) hm hi hlk hd hdd hs hk hc hcn rfl hent hle hrest hV kk
theorem bz_cV4U {a1 a2 a3 a4 : Value} (hm : bz_mv M' 4) (hi : bz_mi M') (hlk : Cond.methodLink M.2.2.1 idx M'.1 ∈ bz_tbl) (hd : decode M.2.1 pc = .ok (.invokevirtual idx, 3)) (hV : bz_V l ad K n M' d' none σ1 0 ls' [] σ) (hdd : d' < d) (hs : bz_sh k = (4, ci, b, fl)) (hk : k < n) (hc : vwCl[ci]? = some qc) (hcn : qc.1 = M'.1.cls) (hent : bz_arg [.ref (ad k), a1, a2, a3, a4] ++ List.replicate z none = ls') (hle : (lg_sl [.ref (ad k), a1, a2, a3, a4]).length ≤ M'.2.2.2.1) (hrest : (st.map fun v => v.category).sum ≤ 8) (kk : bz_V l ad K n M d r σ' (pc + 3) ls st σ1) : bz_V l ad K n M d r σ' pc ls (a4 :: a3 :: a2 :: a1 :: .ref (ad k) :: st) σ := bz_callV (av := [a1, a2, a3, a4]) hm hi hlk hd hdd hs hk hc hcn rfl hent hle hrest hV kk
theorem bz_cV6U {a1 a2 a3 a4 a5 a6 : Value} (hm : bz_mv M' 6) (hi : bz_mi M') (hlk : Cond.methodLink M.2.2.1 idx M'.1 ∈ bz_tbl) (hd : decode M.2.1 pc = .ok (.invokevirtual idx, 3)) (hV : bz_V l ad K n M' d' none σ1 0 ls' [] σ) (hdd : d' < d) (hs : bz_sh k = (4, ci, b, fl)) (hk : k < n) (hc : vwCl[ci]? = some qc) (hcn : qc.1 = M'.1.cls) (hent : bz_arg [.ref (ad k), a1, a2, a3, a4, a5, a6] ++ List.replicate z none = ls') (hle : (lg_sl [.ref (ad k), a1, a2, a3, a4, a5, a6]).length ≤ M'.2.2.2.1) (hrest : (st.map fun v => v.category).sum ≤ 8) (kk : bz_V l ad K n M d r σ' (pc + 3) ls st σ1) : bz_V l ad K n M d r σ' pc ls (a6 :: a5 :: a4 :: a3 :: a2 :: a1 :: .ref (ad k) :: st) σ := bz_callV (av := [a1, a2, a3, a4, a5, a6]) hm hi hlk hd hdd hs hk hc hcn rfl hent hle hrest hV kk
theorem bz_cVN2I {a1 a2 : Value} {x : Int32} (hm : bz_mv M' 2) (hi : bz_mi M') (hlk : Cond.methodLinkNest M.2.2.1 idx M'.1 host ∈ bz_nst) (hd : decode M.2.1 pc = .ok (.invokevirtual idx, 3)) (hV : bz_V l ad K n M' d' (some (.int x)) σ1 0 ls' [] σ) (hdd : d' < d) (hs : bz_sh k = (4, ci, b, fl)) (hk : k < n) (hc : vwCl[ci]? = some qc) (hcn : qc.1 = M'.1.cls) (hent : bz_arg [.ref (ad k), a1, a2] ++ List.replicate z none = ls') (hle : (lg_sl [.ref (ad k), a1, a2]).length ≤ M'.2.2.2.1) (hrest : (st.map fun v => v.category).sum ≤ 8) (kk : bz_V l ad K n M d r σ' (pc + 3) ls (.int x :: st) σ1) : bz_V l ad K n M d r σ' pc ls (a2 :: a1 :: .ref (ad k) :: st) σ := bz_callVN (av := [a1, a2]) hm hi hlk hd hdd hs hk hc hcn rfl hent hle hrest hV kk
theorem bz_cVN3U {a1 a2 a3 : Value} (hm : bz_mv M' 3) (hi : bz_mi M') (hlk : Cond.methodLinkNest M.2.2.1 idx M'.1 host ∈ bz_nst) (hd : decode M.2.1 pc = .ok (.invokevirtual idx, 3)) (hV : bz_V l ad K n M' d' none σ1 0 ls' [] σ) (hdd : d' < d) (hs : bz_sh k = (4, ci, b, fl)) (hk : k < n) (hc : vwCl[ci]? = some qc) (hcn : qc.1 = M'.1.cls) (hent : bz_arg [.ref (ad k), a1, a2, a3] ++ List.replicate z none = ls') (hle : (lg_sl [.ref (ad k), a1, a2, a3]).length ≤ M'.2.2.2.1) (hrest : (st.map fun v => v.category).sum ≤ 8) (kk : bz_V l ad K n M d r σ' (pc + 3) ls st σ1) : bz_V l ad K n M d r σ' pc ls (a3 :: a2 :: a1 :: .ref (ad k) :: st) σ := bz_callVN (av := [a1, a2, a3]) hm hi hlk hd hdd hs hk hc hcn rfl hent hle hrest hV kk
theorem bz_cVN4L {a1 a2 a3 a4 : Value} {x : Int64} (hm : bz_mv M' 4) (hi : bz_mi M') (hlk : Cond.methodLinkNest M.2.2.1 idx M'.1 host ∈ bz_nst) (hd : decode M.2.1 pc = .ok (.invokevirtual idx, 3)) (hV : bz_V l ad K n M' d' (some (.long x)) σ1 0 ls' [] σ) (hdd : d' < d) (hs : bz_sh k = (4, ci, b, fl)) (hk : k < n) (hc : vwCl[ci]? = some qc) (hcn : qc.1 = M'.1.cls) (hent : bz_arg [.ref (ad k), a1, a2, a3, a4] ++ List.replicate z none = ls') (hle : (lg_sl [.ref (ad k), a1, a2, a3, a4]).length ≤ M'.2.2.2.1) (hrest : (st.map fun v => v.category).sum ≤ 8) (kk : bz_V l ad K n M d r σ' (pc + 3) ls (.long x :: st) σ1) : bz_V l ad K n M d r σ' pc ls (a4 :: a3 :: a2 :: a1 :: .ref (ad k) :: st) σ := bz_callVN (av := [a1, a2, a3, a4]) hm hi hlk hd hdd hs hk hc hcn rfl hent hle hrest hV kk
end BZ6
def bz_b (c : Bool) : Int32 := if c then 1 else 0
theorem bz_b_nar (c : Bool) : narrow .boolean (.int (bz_b c)) = .int (bz_b c) := by cases c <;> rfl
theorem bz_b_0 {c : Bool} : bz_b c = 0 ↔ c = false := by cases c <;> simp [bz_b]
theorem bz_b_1 {c : Bool} : ¬ bz_b c = 0 ↔ c = true := by cases c <;> simp [bz_b]
end
section
/-! the partitions' methods that read tables -/
def xp_start (d : Nat) : Nat := [0, 1, 2, 4, 7, 12, 19, 30].getD d 0
theorem xp_STARTS (j : Nat) : bz_STARTS j = nI (xp_start j) := rfl
theorem xp_PARTS (j : Nat) : bz_PARTS j = nI (bz_parts.getD j 0) := rfl
def xp_part (a k : Nat) : Nat := if a < 30 ∧ k < 6 then bz_parts.getD (a * 6 + k) 0 else 0
section XP1
variable {l : Launch} {ad : Nat → Nat} {K : bz_K} {n : Nat} {σ : bz_S}
theorem t_isPart {a : Nat} (h : a < 30) : bz_V l ad K n mX3_isPartition 0 (some (.int (nI 1))) σ 0 [some (.int (nI a))] [] σ := by
  refine bz_iload_n dX3_isPartition_0 rfl ?_
  refine bz_if_lt (tgt := 14) dX3_isPartition_1 rfl (fun q => absurd q (nI_pos (by omega))) (fun _ => ?_)
  refine bz_iload_n dX3_isPartition_4 rfl ?_
  refine bz_bipush dX3_isPartition_5 kc_bipush_30 ?_
  refine bz_icmp_geN (tgt := 14) dX3_isPartition_7 rfl (by omega) (by omega) (fun q => absurd q (by omega)) (fun _ => ?_)
  refine bz_iconst dX3_isPartition_10 kc_iconst_1 ?_
  refine bz_goto (tgt := 15) dX3_isPartition_11 rfl ?_
  refine bz_zret dX3_isPartition_15 rfl rfl rfl rfl
theorem t_isPartF {x : Int32} (h : x < 0 ∨ nI 30 ≤ x) : bz_V l ad K n mX3_isPartition 0 (some (.int (nI 0))) σ 0 [some (.int x)] [] σ := by
  refine bz_iload_n dX3_isPartition_0 rfl ?_
  refine bz_if_lt (tgt := 14) dX3_isPartition_1 rfl (fun h1 => ?_) (fun h1 => ?_)
  · refine bz_iconst dX3_isPartition_14 kc_iconst_0 ?_
    refine bz_zret dX3_isPartition_15 rfl rfl rfl rfl
  · refine bz_iload_n dX3_isPartition_4 rfl ?_
    refine bz_bipush dX3_isPartition_5 kc_bipush_30 ?_
    refine bz_icmp_ge (tgt := 14) dX3_isPartition_7 rfl (fun _ => ?_) (fun q => absurd (h.resolve_left h1) q)
    refine bz_iconst dX3_isPartition_14 kc_iconst_0 ?_
    refine bz_zret dX3_isPartition_15 rfl rfl rfl rfl
theorem t_isPlace {a : Nat} (h : a < 6) : bz_V l ad K n mX1_isPlace 0 (some (.int (nI 1))) σ 0 [some (.int (nI a))] [] σ := by
  refine bz_iload_n dX1_isPlace_0 rfl ?_
  refine bz_if_lt (tgt := 14) dX1_isPlace_1 rfl (fun q => absurd q (nI_pos (by omega))) (fun _ => ?_)
  refine bz_iload_n dX1_isPlace_4 rfl ?_
  refine bz_bipush dX1_isPlace_5 kc_bipush_6 ?_
  refine bz_icmp_geN (tgt := 14) dX1_isPlace_7 rfl (by omega) (by omega) (fun q => absurd q (by omega)) (fun _ => ?_)
  refine bz_iconst dX1_isPlace_10 kc_iconst_1 ?_
  refine bz_goto (tgt := 15) dX1_isPlace_11 rfl ?_
  refine bz_zret dX1_isPlace_15 rfl rfl rfl rfl
theorem t_isPlaceF {x : Int32} (h : x < 0 ∨ nI 6 ≤ x) : bz_V l ad K n mX1_isPlace 0 (some (.int (nI 0))) σ 0 [some (.int x)] [] σ := by
  refine bz_iload_n dX1_isPlace_0 rfl ?_
  refine bz_if_lt (tgt := 14) dX1_isPlace_1 rfl (fun h1 => ?_) (fun h1 => ?_)
  · refine bz_iconst dX1_isPlace_14 kc_iconst_0 ?_
    refine bz_zret dX1_isPlace_15 rfl rfl rfl rfl
  · refine bz_iload_n dX1_isPlace_4 rfl ?_
    refine bz_bipush dX1_isPlace_5 kc_bipush_6 ?_
    refine bz_icmp_ge (tgt := 14) dX1_isPlace_7 rfl (fun _ => ?_) (fun q => absurd (h.resolve_left h1) q)
    refine bz_iconst dX1_isPlace_14 kc_iconst_0 ?_
    refine bz_zret dX1_isPlace_15 rfl rfl rfl rfl
theorem t_startOf {a : Nat} (h : a ≤ 6) : bz_V l ad K n mX1_startOf 0 (some (.int (nI (xp_start a)))) σ 0 [some (.int (nI a))] [] σ := by
  refine bz_iload_n dX1_startOf_0 rfl ?_
  refine bz_if_lt (tgt := 18) dX1_startOf_1 rfl (fun q => absurd q (nI_pos (by omega))) (fun _ => ?_)
  refine bz_iload_n dX1_startOf_4 rfl ?_
  refine bz_bipush dX1_startOf_5 kc_bipush_6 ?_
  refine bz_icmp_gtN (tgt := 18) dX1_startOf_7 rfl (by omega) (by omega) (fun q => absurd q (by omega)) (fun _ => ?_)
  refine bz_getST fs_X1_51 dX1_startOf_10 ?_
  refine bz_iload_n dX1_startOf_13 rfl ?_
  refine bz_ldST dX1_startOf_14 (by omega) ?_
  refine bz_goto (tgt := 19) dX1_startOf_15 rfl ?_
  refine bz_iret dX1_startOf_19 rfl rfl rfl
theorem t_startOfF {x : Int32} (h : x < 0 ∨ nI 6 < x) : bz_V l ad K n mX1_startOf 0 (some (.int (nI 0))) σ 0 [some (.int x)] [] σ := by
  refine bz_iload_n dX1_startOf_0 rfl ?_
  refine bz_if_lt (tgt := 18) dX1_startOf_1 rfl (fun h1 => ?_) (fun h1 => ?_)
  · refine bz_iconst dX1_startOf_18 kc_iconst_0 ?_
    refine bz_iret dX1_startOf_19 rfl rfl rfl
  · refine bz_iload_n dX1_startOf_4 rfl ?_
    refine bz_bipush dX1_startOf_5 kc_bipush_6 ?_
    refine bz_icmp_gt (tgt := 18) dX1_startOf_7 rfl (fun _ => ?_) (fun q => absurd (h.resolve_left h1) q)
    refine bz_iconst dX1_startOf_18 kc_iconst_0 ?_
    refine bz_iret dX1_startOf_19 rfl rfl rfl
theorem t_endOf {a : Nat} (h : a ≤ 6) : bz_V l ad K n mX1_endOf 0 (some (.int (nI (xp_start (a + 1))))) σ 0 [some (.int (nI a))] [] σ := by
  refine bz_iload_n dX1_endOf_0 rfl ?_
  refine bz_if_lt (tgt := 20) dX1_endOf_1 rfl (fun q => absurd q (nI_pos (by omega))) (fun _ => ?_)
  refine bz_iload_n dX1_endOf_4 rfl ?_
  refine bz_bipush dX1_endOf_5 kc_bipush_6 ?_
  refine bz_icmp_gtN (tgt := 20) dX1_endOf_7 rfl (by omega) (by omega) (fun q => absurd q (by omega)) (fun _ => ?_)
  refine bz_getST fs_X1_51 dX1_endOf_10 ?_
  refine bz_iload_n dX1_endOf_13 rfl ?_
  refine bz_iconst dX1_endOf_14 kc_iconst_1 ?_
  first | refine bz_iaddN dX1_endOf_15 ?_ | refine bz_iadd dX1_endOf_15 ?_
  refine bz_ldST dX1_endOf_16 (by omega) ?_
  refine bz_goto (tgt := 21) dX1_endOf_17 rfl ?_
  refine bz_iret dX1_endOf_21 rfl rfl rfl
theorem t_endOfF {x : Int32} (h : x < 0 ∨ nI 6 < x) : bz_V l ad K n mX1_endOf 0 (some (.int (nI 0))) σ 0 [some (.int x)] [] σ := by
  refine bz_iload_n dX1_endOf_0 rfl ?_
  refine bz_if_lt (tgt := 20) dX1_endOf_1 rfl (fun h1 => ?_) (fun h1 => ?_)
  · refine bz_iconst dX1_endOf_20 kc_iconst_0 ?_
    refine bz_iret dX1_endOf_21 rfl rfl rfl
  · refine bz_iload_n dX1_endOf_4 rfl ?_
    refine bz_bipush dX1_endOf_5 kc_bipush_6 ?_
    refine bz_icmp_gt (tgt := 20) dX1_endOf_7 rfl (fun _ => ?_) (fun q => absurd (h.resolve_left h1) q)
    refine bz_iconst dX1_endOf_20 kc_iconst_0 ?_
    refine bz_iret dX1_endOf_21 rfl rfl rfl
theorem t_partAt {p : Nat} {a k : Nat} (ha : a < 30) (hk : k < 6) : bz_V l ad K n mX1_partAt 1 (some (.int (nI (xp_part a k)))) σ 0 [some (.ref p), some (.int (nI a)), some (.int (nI k))] [] σ := by
  refine bz_iload_n dX1_partAt_0 rfl ?_
  refine bz_cSN1I (z := 0) mv_X3_isPartition ws_X3_isPartition lk_X1_54 dX1_partAt_1 (by exact t_isPart ha) (by omega) rfl (Nat.le_of_ble_eq_true rfl) (Nat.le_of_ble_eq_true rfl) ?_
  refine bz_if_eq (tgt := 27) dX1_partAt_4 rfl (fun q => absurd q (by decide)) (fun _ => ?_)
  refine bz_iload_n dX1_partAt_7 rfl ?_
  refine bz_cS1I (z := 0) mv_X1_isPlace ws_X1_isPlace lk_X1_58 dX1_partAt_8 (by exact t_isPlace hk) (by omega) rfl (Nat.le_of_ble_eq_true rfl) (Nat.le_of_ble_eq_true rfl) ?_
  refine bz_if_eq (tgt := 27) dX1_partAt_11 rfl (fun q => absurd q (by decide)) (fun _ => ?_)
  refine bz_getPA fs_X1_61 dX1_partAt_14 ?_
  refine bz_iload_n dX1_partAt_17 rfl ?_
  refine bz_bipush dX1_partAt_18 kc_bipush_6 ?_
  first | refine bz_imulN dX1_partAt_20 ?_ | refine bz_imul dX1_partAt_20 ?_
  refine bz_iload_n dX1_partAt_21 rfl ?_
  first | refine bz_iaddN dX1_partAt_22 ?_ | refine bz_iadd dX1_partAt_22 ?_
  refine bz_ldPA dX1_partAt_23 (by omega) ?_
  refine bz_goto (tgt := 28) dX1_partAt_24 rfl ?_
  refine bz_iret dX1_partAt_28 rfl ?_ ?_
  · rw [xp_PARTS]
    simp [xp_part, ha, hk]
  · rfl
theorem t_partAtK {p : Nat} {a : Nat} {x : Int32} (ha : a < 30) (hk : x < 0 ∨ nI 6 ≤ x) : bz_V l ad K n mX1_partAt 1 (some (.int (nI 0))) σ 0 [some (.ref p), some (.int (nI a)), some (.int x)] [] σ := by
  refine bz_iload_n dX1_partAt_0 rfl ?_
  refine bz_cSN1I (z := 0) mv_X3_isPartition ws_X3_isPartition lk_X1_54 dX1_partAt_1 (by exact t_isPart ha) (by omega) rfl (Nat.le_of_ble_eq_true rfl) (Nat.le_of_ble_eq_true rfl) ?_
  refine bz_if_eq (tgt := 27) dX1_partAt_4 rfl (fun q => absurd q (by decide)) (fun _ => ?_)
  refine bz_iload_n dX1_partAt_7 rfl ?_
  refine bz_cS1I (z := 0) mv_X1_isPlace ws_X1_isPlace lk_X1_58 dX1_partAt_8 (by exact t_isPlaceF hk) (by omega) rfl (Nat.le_of_ble_eq_true rfl) (Nat.le_of_ble_eq_true rfl) ?_
  refine bz_if_eq (tgt := 27) dX1_partAt_11 rfl (fun _ => ?_) (fun q => absurd (by decide) q)
  refine bz_iconst dX1_partAt_27 kc_iconst_0 ?_
  refine bz_iret dX1_partAt_28 rfl rfl rfl
theorem t_kostkaOf (hn : 9 ≤ n) {a b : Nat} (ha : a < 30) (hb : b < 30) : bz_V l ad K n mX1_kostkaOf 1 (some (.int (σ.2.1 7 (a * 30 + b)))) σ 0 [some (.ref (ad 0)), some (.int (nI a)), some (.int (nI b))] [] σ := by
  refine bz_iload_n dX1_kostkaOf_0 rfl ?_
  refine bz_cSN1I (z := 0) mv_X3_isPartition ws_X3_isPartition lk_X1_54 dX1_kostkaOf_1 (by exact t_isPart ha) (by omega) rfl (Nat.le_of_ble_eq_true rfl) (Nat.le_of_ble_eq_true rfl) ?_
  refine bz_if_eq (tgt := 28) dX1_kostkaOf_4 rfl (fun q => absurd q (by decide)) (fun _ => ?_)
  refine bz_iload_n dX1_kostkaOf_7 rfl ?_
  refine bz_cSN1I (z := 0) mv_X3_isPartition ws_X3_isPartition lk_X1_54 dX1_kostkaOf_8 (by exact t_isPart hb) (by omega) rfl (Nat.le_of_ble_eq_true rfl) (Nat.le_of_ble_eq_true rfl) ?_
  refine bz_if_eq (tgt := 28) dX1_kostkaOf_11 rfl (fun q => absurd q (by decide)) (fun _ => ?_)
  refine bz_aload_n dX1_kostkaOf_14 rfl ?_
  refine bz_getf fl_X1_30 dX1_kostkaOf_15 rfl rfl (by omega) ?_
  refine bz_iload_n dX1_kostkaOf_18 rfl ?_
  refine bz_bipush dX1_kostkaOf_19 kc_bipush_30 ?_
  first | refine bz_imulN dX1_kostkaOf_21 ?_ | refine bz_imul dX1_kostkaOf_21 ?_
  refine bz_iload_n dX1_kostkaOf_22 rfl ?_
  first | refine bz_iaddN dX1_kostkaOf_23 ?_ | refine bz_iadd dX1_kostkaOf_23 ?_
  refine bz_iaload dX1_kostkaOf_24 rfl (by omega) (by omega) ?_
  refine bz_goto (tgt := 29) dX1_kostkaOf_25 rfl ?_
  refine bz_iret dX1_kostkaOf_29 rfl rfl rfl
theorem t_characterOf (hn : 9 ≤ n) {a b : Nat} (ha : a < 30) (hb : b < 30) : bz_V l ad K n mX1_characterOf 1 (some (.int (σ.2.1 8 (a * 30 + b)))) σ 0 [some (.ref (ad 0)), some (.int (nI a)), some (.int (nI b))] [] σ := by
  refine bz_iload_n dX1_characterOf_0 rfl ?_
  refine bz_cSN1I (z := 0) mv_X3_isPartition ws_X3_isPartition lk_X1_54 dX1_characterOf_1 (by exact t_isPart ha) (by omega) rfl (Nat.le_of_ble_eq_true rfl) (Nat.le_of_ble_eq_true rfl) ?_
  refine bz_if_eq (tgt := 28) dX1_characterOf_4 rfl (fun q => absurd q (by decide)) (fun _ => ?_)
  refine bz_iload_n dX1_characterOf_7 rfl ?_
  refine bz_cSN1I (z := 0) mv_X3_isPartition ws_X3_isPartition lk_X1_54 dX1_characterOf_8 (by exact t_isPart hb) (by omega) rfl (Nat.le_of_ble_eq_true rfl) (Nat.le_of_ble_eq_true rfl) ?_
  refine bz_if_eq (tgt := 28) dX1_characterOf_11 rfl (fun q => absurd q (by decide)) (fun _ => ?_)
  refine bz_aload_n dX1_characterOf_14 rfl ?_
  refine bz_getf fl_X1_33 dX1_characterOf_15 rfl rfl (by omega) ?_
  refine bz_iload_n dX1_characterOf_18 rfl ?_
  refine bz_bipush dX1_characterOf_19 kc_bipush_30 ?_
  first | refine bz_imulN dX1_characterOf_21 ?_ | refine bz_imul dX1_characterOf_21 ?_
  refine bz_iload_n dX1_characterOf_22 rfl ?_
  first | refine bz_iaddN dX1_characterOf_23 ?_ | refine bz_iadd dX1_characterOf_23 ?_
  refine bz_iaload dX1_characterOf_24 rfl (by omega) (by omega) ?_
  refine bz_goto (tgt := 29) dX1_characterOf_25 rfl ?_
  refine bz_iret dX1_characterOf_29 rfl rfl rfl
theorem t_joined (hn : 9 ≤ n) {a b : Nat} (ha : a < 30) (hb : b < 30) : bz_V l ad K n mX1_joined 1 (some (.int (σ.2.1 6 (a * 30 + b)))) σ 0 [some (.ref (ad 0)), some (.int (nI a)), some (.int (nI b))] [] σ := by
  refine bz_iload_n dX1_joined_0 rfl ?_
  refine bz_cSN1I (z := 0) mv_X3_isPartition ws_X3_isPartition lk_X1_54 dX1_joined_1 (by exact t_isPart ha) (by omega) rfl (Nat.le_of_ble_eq_true rfl) (Nat.le_of_ble_eq_true rfl) ?_
  refine bz_if_eq (tgt := 28) dX1_joined_4 rfl (fun q => absurd q (by decide)) (fun _ => ?_)
  refine bz_iload_n dX1_joined_7 rfl ?_
  refine bz_cSN1I (z := 0) mv_X3_isPartition ws_X3_isPartition lk_X1_54 dX1_joined_8 (by exact t_isPart hb) (by omega) rfl (Nat.le_of_ble_eq_true rfl) (Nat.le_of_ble_eq_true rfl) ?_
  refine bz_if_eq (tgt := 28) dX1_joined_11 rfl (fun q => absurd q (by decide)) (fun _ => ?_)
  refine bz_aload_n dX1_joined_14 rfl ?_
  refine bz_getf fl_X1_27 dX1_joined_15 rfl rfl (by omega) ?_
  refine bz_iload_n dX1_joined_18 rfl ?_
  refine bz_bipush dX1_joined_19 kc_bipush_30 ?_
  first | refine bz_imulN dX1_joined_21 ?_ | refine bz_imul dX1_joined_21 ?_
  refine bz_iload_n dX1_joined_22 rfl ?_
  first | refine bz_iaddN dX1_joined_23 ?_ | refine bz_iadd dX1_joined_23 ?_
  refine bz_iaload dX1_joined_24 rfl (by omega) (by omega) ?_
  refine bz_goto (tgt := 29) dX1_joined_25 rfl ?_
  refine bz_iret dX1_joined_29 rfl rfl rfl
end XP1
end
section
/-! tables, sums -/
def xt_degL : List Nat := [0, 1, 2, 2, 3, 3, 3, 4, 4, 4, 4, 4, 5, 5, 5, 5, 5, 5, 5, 6, 6, 6, 6, 6, 6, 6, 6, 6, 6, 6]
def xt_lenL : List Nat := [0, 1, 1, 2, 1, 2, 3, 1, 2, 2, 3, 4, 1, 2, 2, 3, 3, 4, 5, 1, 2, 2, 3, 2, 3, 4, 3, 4, 5, 6]
def xt_markL : List Nat := [0, 1, 8, 2, 64, 9, 3, 512, 65, 16, 10, 4, 4096, 513, 72, 66, 17, 11, 5, 32768, 4097, 520, 514, 128, 73, 67, 24, 18, 12, 6]
def xt_conjL : List Nat := [0, 1, 3, 2, 6, 5, 4, 11, 10, 9, 8, 7, 18, 17, 16, 15, 14, 13, 12, 29, 28, 27, 25, 26, 24, 22, 23, 21, 20, 19]
def xt_zL : List Nat := [1, 1, 2, 2, 3, 2, 6, 4, 3, 8, 4, 24, 5, 4, 6, 6, 8, 12, 120, 6, 5, 8, 8, 18, 6, 18, 48, 16, 48, 720]
def xt_joinL : List Int := [0, 1, 2, 3, 4, 5, 6, 7, 8, 9, 10, 11, 12, 13, 14, 15, 16, 17, 18, 19, 20, 21, 22, 23, 24, 25, 26, 27, 28, 29, 1, 3, 5, 6, 8, 10, 11, 13, 15, 16, 17, 18, 20, 22, 24, 25, 27, 28, 29, (-1), (-1), (-1), (-1), (-1), (-1), (-1), (-1), (-1), (-1), (-1), 2, 5, 9, 10, 14, 16, 17, 21, 24, 26, 27, 28, (-1), (-1), (-1), (-1), (-1), (-1), (-1), (-1), (-1), (-1), (-1), (-1), (-1), (-1), (-1), (-1), (-1), (-1), 3, 6, 10, 11, 15, 17, 18, 22, 25, 27, 28, 29, (-1), (-1), (-1), (-1), (-1), (-1), (-1), (-1), (-1), (-1), (-1), (-1), (-1), (-1), (-1), (-1), (-1), (-1), 4, 8, 14, 15, 23, 24, 25, (-1), (-1), (-1), (-1), (-1), (-1), (-1), (-1), (-1), (-1), (-1), (-1), (-1), (-1), (-1), (-1), (-1), (-1), (-1), (-1), (-1), (-1), (-1), 5, 10, 16, 17, 24, 27, 28, (-1), (-1), (-1), (-1), (-1), (-1), (-1), (-1), (-1), (-1), (-1), (-1), (-1), (-1), (-1), (-1), (-1), (-1), (-1), (-1), (-1), (-1), (-1), 6, 11, 17, 18, 25, 28, 29, (-1), (-1), (-1), (-1), (-1), (-1), (-1), (-1), (-1), (-1), (-1), (-1), (-1), (-1), (-1), (-1), (-1), (-1), (-1), (-1), (-1), (-1), (-1), 7, 13, 21, 22, (-1), (-1), (-1), (-1), (-1), (-1), (-1), (-1), (-1), (-1), (-1), (-1), (-1), (-1), (-1), (-1), (-1), (-1), (-1), (-1), (-1), (-1), (-1), (-1), (-1), (-1), 8, 15, 24, 25, (-1), (-1), (-1), (-1), (-1), (-1), (-1), (-1), (-1), (-1), (-1), (-1), (-1), (-1), (-1), (-1), (-1), (-1), (-1), (-1), (-1), (-1), (-1), (-1), (-1), (-1), 9, 16, 26, 27, (-1), (-1), (-1), (-1), (-1), (-1), (-1), (-1), (-1), (-1), (-1), (-1), (-1), (-1), (-1), (-1), (-1), (-1), (-1), (-1), (-1), (-1), (-1), (-1), (-1), (-1), 10, 17, 27, 28, (-1), (-1), (-1), (-1), (-1), (-1), (-1), (-1), (-1), (-1), (-1), (-1), (-1), (-1), (-1), (-1), (-1), (-1), (-1), (-1), (-1), (-1), (-1), (-1), (-1), (-1), 11, 18, 28, 29, (-1), (-1), (-1), (-1), (-1), (-1), (-1), (-1), (-1), (-1), (-1), (-1), (-1), (-1), (-1), (-1), (-1), (-1), (-1), (-1), (-1), (-1), (-1), (-1), (-1), (-1), 12, 20, (-1), (-1), (-1), (-1), (-1), (-1), (-1), (-1), (-1), (-1), (-1), (-1), (-1), (-1), (-1), (-1), (-1), (-1), (-1), (-1), (-1), (-1), (-1), (-1), (-1), (-1), (-1), (-1), 13, 22, (-1), (-1), (-1), (-1), (-1), (-1), (-1), (-1), (-1), (-1), (-1), (-1), (-1), (-1), (-1), (-1), (-1), (-1), (-1), (-1), (-1), (-1), (-1), (-1), (-1), (-1), (-1), (-1), 14, 24, (-1), (-1), (-1), (-1), (-1), (-1), (-1), (-1), (-1), (-1), (-1), (-1), (-1), (-1), (-1), (-1), (-1), (-1), (-1), (-1), (-1), (-1), (-1), (-1), (-1), (-1), (-1), (-1), 15, 25, (-1), (-1), (-1), (-1), (-1), (-1), (-1), (-1), (-1), (-1), (-1), (-1), (-1), (-1), (-1), (-1), (-1), (-1), (-1), (-1), (-1), (-1), (-1), (-1), (-1), (-1), (-1), (-1), 16, 27, (-1), (-1), (-1), (-1), (-1), (-1), (-1), (-1), (-1), (-1), (-1), (-1), (-1), (-1), (-1), (-1), (-1), (-1), (-1), (-1), (-1), (-1), (-1), (-1), (-1), (-1), (-1), (-1), 17, 28, (-1), (-1), (-1), (-1), (-1), (-1), (-1), (-1), (-1), (-1), (-1), (-1), (-1), (-1), (-1), (-1), (-1), (-1), (-1), (-1), (-1), (-1), (-1), (-1), (-1), (-1), (-1), (-1), 18, 29, (-1), (-1), (-1), (-1), (-1), (-1), (-1), (-1), (-1), (-1), (-1), (-1), (-1), (-1), (-1), (-1), (-1), (-1), (-1), (-1), (-1), (-1), (-1), (-1), (-1), (-1), (-1), (-1), 19, (-1), (-1), (-1), (-1), (-1), (-1), (-1), (-1), (-1), (-1), (-1), (-1), (-1), (-1), (-1), (-1), (-1), (-1), (-1), (-1), (-1), (-1), (-1), (-1), (-1), (-1), (-1), (-1), (-1), 20, (-1), (-1), (-1), (-1), (-1), (-1), (-1), (-1), (-1), (-1), (-1), (-1), (-1), (-1), (-1), (-1), (-1), (-1), (-1), (-1), (-1), (-1), (-1), (-1), (-1), (-1), (-1), (-1), (-1), 21, (-1), (-1), (-1), (-1), (-1), (-1), (-1), (-1), (-1), (-1), (-1), (-1), (-1), (-1), (-1), (-1), (-1), (-1), (-1), (-1), (-1), (-1), (-1), (-1), (-1), (-1), (-1), (-1), (-1), 22, (-1), (-1), (-1), (-1), (-1), (-1), (-1), (-1), (-1), (-1), (-1), (-1), (-1), (-1), (-1), (-1), (-1), (-1), (-1), (-1), (-1), (-1), (-1), (-1), (-1), (-1), (-1), (-1), (-1), 23, (-1), (-1), (-1), (-1), (-1), (-1), (-1), (-1), (-1), (-1), (-1), (-1), (-1), (-1), (-1), (-1), (-1), (-1), (-1), (-1), (-1), (-1), (-1), (-1), (-1), (-1), (-1), (-1), (-1), 24, (-1), (-1), (-1), (-1), (-1), (-1), (-1), (-1), (-1), (-1), (-1), (-1), (-1), (-1), (-1), (-1), (-1), (-1), (-1), (-1), (-1), (-1), (-1), (-1), (-1), (-1), (-1), (-1), (-1), 25, (-1), (-1), (-1), (-1), (-1), (-1), (-1), (-1), (-1), (-1), (-1), (-1), (-1), (-1), (-1), (-1), (-1), (-1), (-1), (-1), (-1), (-1), (-1), (-1), (-1), (-1), (-1), (-1), (-1), 26, (-1), (-1), (-1), (-1), (-1), (-1), (-1), (-1), (-1), (-1), (-1), (-1), (-1), (-1), (-1), (-1), (-1), (-1), (-1), (-1), (-1), (-1), (-1), (-1), (-1), (-1), (-1), (-1), (-1), 27, (-1), (-1), (-1), (-1), (-1), (-1), (-1), (-1), (-1), (-1), (-1), (-1), (-1), (-1), (-1), (-1), (-1), (-1), (-1), (-1), (-1), (-1), (-1), (-1), (-1), (-1), (-1), (-1), (-1), 28, (-1), (-1), (-1), (-1), (-1), (-1), (-1), (-1), (-1), (-1), (-1), (-1), (-1), (-1), (-1), (-1), (-1), (-1), (-1), (-1), (-1), (-1), (-1), (-1), (-1), (-1), (-1), (-1), (-1), 29, (-1), (-1), (-1), (-1), (-1), (-1), (-1), (-1), (-1), (-1), (-1), (-1), (-1), (-1), (-1), (-1), (-1), (-1), (-1), (-1), (-1), (-1), (-1), (-1), (-1), (-1), (-1), (-1), (-1)]
def xt_kostL : List Nat := [1, 0, 0, 0, 0, 0, 0, 0, 0, 0, 0, 0, 0, 0, 0, 0, 0, 0, 0, 0, 0, 0, 0, 0, 0, 0, 0, 0, 0, 0, 0, 1, 0, 0, 0, 0, 0, 0, 0, 0, 0, 0, 0, 0, 0, 0, 0, 0, 0, 0, 0, 0, 0, 0, 0, 0, 0, 0, 0, 0, 0, 0, 1, 1, 0, 0, 0, 0, 0, 0, 0, 0, 0, 0, 0, 0, 0, 0, 0, 0, 0, 0, 0, 0, 0, 0, 0, 0, 0, 0, 0, 0, 0, 1, 0, 0, 0, 0, 0, 0, 0, 0, 0, 0, 0, 0, 0, 0, 0, 0, 0, 0, 0, 0, 0, 0, 0, 0, 0, 0, 0, 0, 0, 0, 1, 1, 1, 0, 0, 0, 0, 0, 0, 0, 0, 0, 0, 0, 0, 0, 0, 0, 0, 0, 0, 0, 0, 0, 0, 0, 0, 0, 0, 0, 0, 1, 2, 0, 0, 0, 0, 0, 0, 0, 0, 0, 0, 0, 0, 0, 0, 0, 0, 0, 0, 0, 0, 0, 0, 0, 0, 0, 0, 0, 0, 0, 1, 0, 0, 0, 0, 0, 0, 0, 0, 0, 0, 0, 0, 0, 0, 0, 0, 0, 0, 0, 0, 0, 0, 0, 0, 0, 0, 0, 0, 0, 0, 1, 1, 1, 1, 1, 0, 0, 0, 0, 0, 0, 0, 0, 0, 0, 0, 0, 0, 0, 0, 0, 0, 0, 0, 0, 0, 0, 0, 0, 0, 0, 1, 1, 2, 3, 0, 0, 0, 0, 0, 0, 0, 0, 0, 0, 0, 0, 0, 0, 0, 0, 0, 0, 0, 0, 0, 0, 0, 0, 0, 0, 0, 1, 1, 2, 0, 0, 0, 0, 0, 0, 0, 0, 0, 0, 0, 0, 0, 0, 0, 0, 0, 0, 0, 0, 0, 0, 0, 0, 0, 0, 0, 0, 1, 3, 0, 0, 0, 0, 0, 0, 0, 0, 0, 0, 0, 0, 0, 0, 0, 0, 0, 0, 0, 0, 0, 0, 0, 0, 0, 0, 0, 0, 0, 1, 0, 0, 0, 0, 0, 0, 0, 0, 0, 0, 0, 0, 0, 0, 0, 0, 0, 0, 0, 0, 0, 0, 0, 0, 0, 0, 0, 0, 0, 0, 1, 1, 1, 1, 1, 1, 1, 0, 0, 0, 0, 0, 0, 0, 0, 0, 0, 0, 0, 0, 0, 0, 0, 0, 0, 0, 0, 0, 0, 0, 0, 1, 1, 2, 2, 3, 4, 0, 0, 0, 0, 0, 0, 0, 0, 0, 0, 0, 0, 0, 0, 0, 0, 0, 0, 0, 0, 0, 0, 0, 0, 0, 1, 1, 2, 3, 5, 0, 0, 0, 0, 0, 0, 0, 0, 0, 0, 0, 0, 0, 0, 0, 0, 0, 0, 0, 0, 0, 0, 0, 0, 0, 0, 1, 1, 3, 6, 0, 0, 0, 0, 0, 0, 0, 0, 0, 0, 0, 0, 0, 0, 0, 0, 0, 0, 0, 0, 0, 0, 0, 0, 0, 0, 0, 1, 2, 5, 0, 0, 0, 0, 0, 0, 0, 0, 0, 0, 0, 0, 0, 0, 0, 0, 0, 0, 0, 0, 0, 0, 0, 0, 0, 0, 0, 0, 1, 4, 0, 0, 0, 0, 0, 0, 0, 0, 0, 0, 0, 0, 0, 0, 0, 0, 0, 0, 0, 0, 0, 0, 0, 0, 0, 0, 0, 0, 0, 1, 0, 0, 0, 0, 0, 0, 0, 0, 0, 0, 0, 0, 0, 0, 0, 0, 0, 0, 0, 0, 0, 0, 0, 0, 0, 0, 0, 0, 0, 0, 1, 1, 1, 1, 1, 1, 1, 1, 1, 1, 1, 0, 0, 0, 0, 0, 0, 0, 0, 0, 0, 0, 0, 0, 0, 0, 0, 0, 0, 0, 0, 1, 1, 2, 1, 2, 3, 2, 3, 4, 5, 0, 0, 0, 0, 0, 0, 0, 0, 0, 0, 0, 0, 0, 0, 0, 0, 0, 0, 0, 0, 0, 1, 1, 1, 2, 3, 3, 4, 6, 9, 0, 0, 0, 0, 0, 0, 0, 0, 0, 0, 0, 0, 0, 0, 0, 0, 0, 0, 0, 0, 0, 0, 1, 0, 1, 3, 1, 3, 6, 10, 0, 0, 0, 0, 0, 0, 0, 0, 0, 0, 0, 0, 0, 0, 0, 0, 0, 0, 0, 0, 0, 0, 0, 1, 1, 1, 1, 2, 3, 5, 0, 0, 0, 0, 0, 0, 0, 0, 0, 0, 0, 0, 0, 0, 0, 0, 0, 0, 0, 0, 0, 0, 0, 0, 1, 2, 2, 4, 8, 16, 0, 0, 0, 0, 0, 0, 0, 0, 0, 0, 0, 0, 0, 0, 0, 0, 0, 0, 0, 0, 0, 0, 0, 0, 0, 1, 0, 1, 4, 10, 0, 0, 0, 0, 0, 0, 0, 0, 0, 0, 0, 0, 0, 0, 0, 0, 0, 0, 0, 0, 0, 0, 0, 0, 0, 0, 1, 1, 2, 5, 0, 0, 0, 0, 0, 0, 0, 0, 0, 0, 0, 0, 0, 0, 0, 0, 0, 0, 0, 0, 0, 0, 0, 0, 0, 0, 0, 1, 3, 9, 0, 0, 0, 0, 0, 0, 0, 0, 0, 0, 0, 0, 0, 0, 0, 0, 0, 0, 0, 0, 0, 0, 0, 0, 0, 0, 0, 0, 1, 5, 0, 0, 0, 0, 0, 0, 0, 0, 0, 0, 0, 0, 0, 0, 0, 0, 0, 0, 0, 0, 0, 0, 0, 0, 0, 0, 0, 0, 0, 1]
def xt_charL : List Int := [1, 0, 0, 0, 0, 0, 0, 0, 0, 0, 0, 0, 0, 0, 0, 0, 0, 0, 0, 0, 0, 0, 0, 0, 0, 0, 0, 0, 0, 0, 0, 1, 0, 0, 0, 0, 0, 0, 0, 0, 0, 0, 0, 0, 0, 0, 0, 0, 0, 0, 0, 0, 0, 0, 0, 0, 0, 0, 0, 0, 0, 0, 1, 1, 0, 0, 0, 0, 0, 0, 0, 0, 0, 0, 0, 0, 0, 0, 0, 0, 0, 0, 0, 0, 0, 0, 0, 0, 0, 0, 0, 0, (-1), 1, 0, 0, 0, 0, 0, 0, 0, 0, 0, 0, 0, 0, 0, 0, 0, 0, 0, 0, 0, 0, 0, 0, 0, 0, 0, 0, 0, 0, 0, 0, 1, 1, 1, 0, 0, 0, 0, 0, 0, 0, 0, 0, 0, 0, 0, 0, 0, 0, 0, 0, 0, 0, 0, 0, 0, 0, 0, 0, 0, 0, (-1), 0, 2, 0, 0, 0, 0, 0, 0, 0, 0, 0, 0, 0, 0, 0, 0, 0, 0, 0, 0, 0, 0, 0, 0, 0, 0, 0, 0, 0, 1, (-1), 1, 0, 0, 0, 0, 0, 0, 0, 0, 0, 0, 0, 0, 0, 0, 0, 0, 0, 0, 0, 0, 0, 0, 0, 0, 0, 0, 0, 0, 0, 0, 1, 1, 1, 1, 1, 0, 0, 0, 0, 0, 0, 0, 0, 0, 0, 0, 0, 0, 0, 0, 0, 0, 0, 0, 0, 0, 0, 0, 0, 0, (-1), 0, (-1), 1, 3, 0, 0, 0, 0, 0, 0, 0, 0, 0, 0, 0, 0, 0, 0, 0, 0, 0, 0, 0, 0, 0, 0, 0, 0, 0, 0, (-1), 2, 0, 2, 0, 0, 0, 0, 0, 0, 0, 0, 0, 0, 0, 0, 0, 0, 0, 0, 0, 0, 0, 0, 0, 0, 0, 0, 0, 1, 0, (-1), (-1), 3, 0, 0, 0, 0, 0, 0, 0, 0, 0, 0, 0, 0, 0, 0, 0, 0, 0, 0, 0, 0, 0, 0, 0, 0, 0, (-1), 1, 1, (-1), 1, 0, 0, 0, 0, 0, 0, 0, 0, 0, 0, 0, 0, 0, 0, 0, 0, 0, 0, 0, 0, 0, 0, 0, 0, 0, 0, 0, 0, 0, 0, 1, 1, 1, 1, 1, 1, 1, 0, 0, 0, 0, 0, 0, 0, 0, 0, 0, 0, 0, 0, 0, 0, 0, 0, 0, 0, 0, 0, 0, 0, (-1), 0, (-1), 1, 0, 2, 4, 0, 0, 0, 0, 0, 0, 0, 0, 0, 0, 0, 0, 0, 0, 0, 0, 0, 0, 0, 0, 0, 0, 0, 0, (-1), 1, (-1), 1, 1, 5, 0, 0, 0, 0, 0, 0, 0, 0, 0, 0, 0, 0, 0, 0, 0, 0, 0, 0, 0, 0, 0, 0, 0, 1, 0, 0, 0, (-2), 0, 6, 0, 0, 0, 0, 0, 0, 0, 0, 0, 0, 0, 0, 0, 0, 0, 0, 0, 0, 0, 0, 0, 0, 0, 0, 1, (-1), (-1), 1, (-1), 5, 0, 0, 0, 0, 0, 0, 0, 0, 0, 0, 0, 0, 0, 0, 0, 0, 0, 0, 0, 0, 0, 0, 0, (-1), 0, 1, 1, 0, (-2), 4, 0, 0, 0, 0, 0, 0, 0, 0, 0, 0, 0, 0, 0, 0, 0, 0, 0, 0, 0, 0, 0, 0, 0, 1, (-1), (-1), 1, 1, (-1), 1, 0, 0, 0, 0, 0, 0, 0, 0, 0, 0, 0, 0, 0, 0, 0, 0, 0, 0, 0, 0, 0, 0, 0, 0, 0, 0, 0, 0, 0, 0, 1, 1, 1, 1, 1, 1, 1, 1, 1, 1, 1, 0, 0, 0, 0, 0, 0, 0, 0, 0, 0, 0, 0, 0, 0, 0, 0, 0, 0, 0, (-1), 0, (-1), 1, (-1), 0, 2, (-1), 1, 3, 5, 0, 0, 0, 0, 0, 0, 0, 0, 0, 0, 0, 0, 0, 0, 0, 0, 0, 0, 0, 0, (-1), 1, (-1), 0, 0, 0, 3, 1, 3, 9, 0, 0, 0, 0, 0, 0, 0, 0, 0, 0, 0, 0, 0, 0, 0, 0, 0, 0, 0, 1, 0, 0, 0, 1, (-1), 1, (-2), (-2), 2, 10, 0, 0, 0, 0, 0, 0, 0, 0, 0, 0, 0, 0, 0, 0, 0, 0, 0, 0, 0, 0, 0, (-1), (-1), 2, 1, (-1), (-3), 1, 1, 5, 0, 0, 0, 0, 0, 0, 0, 0, 0, 0, 0, 0, 0, 0, 0, 0, 0, 0, 0, 0, 1, 0, 0, (-2), 0, (-2), 0, 0, 0, 16, 0, 0, 0, 0, 0, 0, 0, 0, 0, 0, 0, 0, 0, 0, 0, 0, 0, 0, 0, (-1), 0, 0, 0, 1, 1, 1, 2, (-2), (-2), 10, 0, 0, 0, 0, 0, 0, 0, 0, 0, 0, 0, 0, 0, 0, 0, 0, 0, 0, 0, 0, 0, (-1), 1, 2, (-1), (-1), 3, 1, (-1), 5, 0, 0, 0, 0, 0, 0, 0, 0, 0, 0, 0, 0, 0, 0, 0, 0, 0, 0, 0, 0, (-1), 1, 1, 0, 0, 0, (-3), 1, (-3), 9, 0, 0, 0, 0, 0, 0, 0, 0, 0, 0, 0, 0, 0, 0, 0, 0, 0, 0, 0, 1, 0, (-1), (-1), (-1), 0, 2, 1, 1, (-3), 5, 0, 0, 0, 0, 0, 0, 0, 0, 0, 0, 0, 0, 0, 0, 0, 0, 0, 0, 0, (-1), 1, 1, (-1), 1, (-1), 1, (-1), 1, (-1), 1]
def xt_deg (a : Nat) : Nat := xt_degL.getD a 0
def xt_len (a : Nat) : Nat := xt_lenL.getD a 0
def xt_mark (a : Nat) : Nat := xt_markL.getD a 0
def xt_conj (a : Nat) : Nat := xt_conjL.getD a 0
def xt_z (a : Nat) : Nat := xt_zL.getD a 0
def xt_join (i : Nat) : Int := xt_joinL.getD i 0
def xt_kost (i : Nat) : Nat := xt_kostL.getD i 0
def xt_char (i : Nat) : Int := xt_charL.getD i 0
def xt_start (a : Nat) : Nat := xp_start (xt_deg a)
def xt_end (a : Nat) : Nat := xp_start (xt_deg a + 1)
/-- the partitions' tables, once they are filled -/
def pz_T (I : Nat → Nat → Int32) : Prop := (∀ i, i < 30 → I 1 i = nI (xt_deg i)) ∧ (∀ i, i < 30 → I 2 i = nI (xt_len i)) ∧ (∀ i, i < 30 → I 3 i = nI (xt_mark i)) ∧ (∀ i, i < 30 → I 4 i = nI (xt_conj i)) ∧ (∀ i, i < 30 → I 5 i = nI (xt_z i)) ∧ (∀ i, i < 900 → I 6 i = Int32.ofInt (xt_join i)) ∧ (∀ i, i < 900 → I 7 i = nI (xt_kost i)) ∧ (∀ i, i < 900 → I 8 i = Int32.ofInt (xt_char i))
theorem xt_lt30 {P : Nat → Prop} (h : ∀ i ∈ List.range 30, P i) : ∀ i, i < 30 → P i := fun i hi => h i (List.mem_range.mpr hi)
theorem xt_deg6 : ∀ i, i < 30 → xt_deg i ≤ 6 := by decide +kernel
theorem xt_se : ∀ i, i < 30 → xt_start i ≤ i ∧ i < xt_end i ∧ xt_end i ≤ 30 := by decide +kernel
theorem xt_conj30 : ∀ i, i < 30 → xt_conj i < 30 := by decide +kernel
theorem xt_zpos : ∀ i, i < 30 → 0 < xt_z i ∧ xt_z i ≤ 720 := by decide +kernel
def zsum (f : Nat → Int64) : Nat → Nat → Int64
  | _, 0 => 0
  | a, m + 1 => f a + zsum f (a + 1) m
theorem zsum_step {f : Nat → Int64} {a m : Nat} {acc T : Int64} (h : acc + zsum f a (m + 1) = T) : acc + f a + zsum f (a + 1) m = T := by
  rw [← h, zsum, Int64.add_assoc]
theorem zsum_end {f : Nat → Int64} {a : Nat} {acc T : Int64} (h : acc + zsum f a 0 = T) : acc = T := by
  rw [← h, zsum, Int64.add_zero]
theorem zsub_step {f : Nat → Int64} {a m : Nat} {acc T : Int64} (h : acc - zsum f a (m + 1) = T) : acc - f a - zsum f (a + 1) m = T := by
  rw [← h, zsum]
  simp only [Int64.sub_eq_add_neg, Int64.neg_add]
  rw [Int64.add_assoc]
theorem zsub_end {f : Nat → Int64} {a : Nat} {acc T : Int64} (h : acc - zsum f a 0 = T) : acc = T := by
  rw [← h, zsum]
  simp
def bz_upto {α : Type} (f F : Nat → α) (i : Nat) : Nat → α := fun j => if j < i then F j else f j
def bz_from {α : Type} (f F : Nat → α) (i n : Nat) : Nat → α := fun j => if i ≤ j ∧ j < n then F j else f j
theorem bz_upto_0 {α : Type} (f F : Nat → α) : bz_upto f F 0 = f := by
  funext j
  simp [bz_upto]
theorem bz_upto_lt {α : Type} {f F : Nat → α} {i j : Nat} (h : j < i) : bz_upto f F i j = F j := by simp [bz_upto, h]
theorem bz_upto_ge {α : Type} {f F : Nat → α} {i j : Nat} (h : i ≤ j) : bz_upto f F i j = f j := by simp [bz_upto, Nat.not_lt.mpr h]
theorem bz_upto_s {f F : Nat → Int64} {i : Nat} {x : Int64} (h : x = F i) : vp_updL (bz_upto f F i) i x = bz_upto f F (i + 1) := by
  funext j
  unfold vp_updL bz_upto
  by_cases e : j = i
  · subst e; simp [h]
  · by_cases q : j < i
    · simp [e, q, Nat.lt_succ_of_lt q]
    · simp [e, q, show ¬ j < i + 1 by omega]
theorem bz_uptoI_s {f F : Nat → Int32} {i : Nat} {x : Int32} (h : x = F i) : upd (bz_upto f F i) i x = bz_upto f F (i + 1) := by
  funext j
  unfold upd bz_upto
  by_cases e : j = i
  · subst e; simp [h]
  · by_cases q : j < i
    · simp [e, q, Nat.lt_succ_of_lt q]
    · simp [e, q, show ¬ j < i + 1 by omega]
theorem bz_from_n {α : Type} (f F : Nat → α) (n : Nat) : bz_from f F n n = f := by
  funext j
  have : ¬ (n ≤ j ∧ j < n) := by omega
  simp [bz_from, this]
theorem bz_from_in {α : Type} {f F : Nat → α} {i n j : Nat} (h : i ≤ j) (h2 : j < n) : bz_from f F i n j = F j := by simp [bz_from, h, h2]
theorem bz_from_s {f F : Nat → Int64} {i n : Nat} {x : Int64} (hi : i < n) (h : x = F i) : vp_updL (bz_from f F (i + 1) n) i x = bz_from f F i n := by
  funext j
  unfold vp_updL bz_from
  by_cases e : j = i
  · subst e; simp [h, hi]
  · by_cases q : i + 1 ≤ j ∧ j < n
    · simp [e, q, show i ≤ j by omega]
    · have : ¬ (i ≤ j ∧ j < n) := by omega
      simp only [e, if_false, q, this]
theorem bz_from_0 {α : Type} (f F : Nat → α) (n : Nat) : bz_from f F 0 n = bz_upto f F n := by
  funext j
  simp [bz_from, bz_upto]
theorem bz_upJ_set {σ : bz_S} {k i : Nat} {f : Nat → Int64} {x : Int64} : bz_upJ (bz_setJ σ k f) k i x = bz_setJ σ k (vp_updL f i x) := by
  unfold bz_upJ bz_setJ
  simp only [if_true]
  congr 1
  funext a
  by_cases h : a = k <;> simp [h]
theorem bz_upI_set {σ : bz_S} {k i : Nat} {f : Nat → Int32} {x : Int32} : bz_upI (bz_setI σ k f) k i x = bz_setI σ k (upd f i x) := by
  unfold bz_upI bz_setI
  simp only [if_true]
  congr 2
  funext a
  by_cases h : a = k <;> simp [h]
theorem bz_setJ_id {σ : bz_S} {k : Nat} {f : Nat → Int64} (h : f = σ.1 k) : bz_setJ σ k f = σ := by
  subst h
  unfold bz_setJ
  have : (fun a => if a = k then σ.1 k else σ.1 a) = σ.1 := by
    funext a
    by_cases h : a = k <;> simp [h]
  rw [this]
theorem bz_setI_id {σ : bz_S} {k : Nat} {f : Nat → Int32} (h : f = σ.2.1 k) : bz_setI σ k f = σ := by
  subst h
  unfold bz_setI
  have : (fun a => if a = k then σ.2.1 k else σ.2.1 a) = σ.2.1 := by
    funext a
    by_cases h : a = k <;> simp [h]
  rw [this]
theorem bz_setJ_at {σ : bz_S} {k : Nat} {f : Nat → Int64} : (bz_setJ σ k f).1 k = f := by simp [bz_setJ]
theorem bz_setJ_ne {σ : bz_S} {k j : Nat} {f : Nat → Int64} (h : j ≠ k) : (bz_setJ σ k f).1 j = σ.1 j := by simp [bz_setJ, h]
theorem bz_setI_at {σ : bz_S} {k : Nat} {f : Nat → Int32} : (bz_setI σ k f).2.1 k = f := by simp [bz_setI]
theorem bz_setI_ne {σ : bz_S} {k j : Nat} {f : Nat → Int32} (h : j ≠ k) : (bz_setI σ k f).2.1 j = σ.2.1 j := by simp [bz_setI, h]
theorem bz_setJ_J {σ : bz_S} {k : Nat} {f g : Nat → Int64} : bz_setJ (bz_setJ σ k f) k g = bz_setJ σ k g := by
  unfold bz_setJ
  congr 1
  funext a
  by_cases h : a = k <;> simp [h]
theorem bz_upJ_as {σ : bz_S} {k i : Nat} {x : Int64} : bz_upJ σ k i x = bz_setJ σ k (vp_updL (σ.1 k) i x) := rfl
theorem bz_upI_as {σ : bz_S} {k i : Nat} {x : Int32} : bz_upI σ k i x = bz_setI σ k (upd (σ.2.1 k) i x) := rfl
section XP2
variable {l : Launch} {ad : Nat → Nat} {K : bz_K} {n : Nat} {M : bz_M} {d : Nat} {r : Option Value} {σ σ2 σ' : bz_S} {pc : Nat} {ls : List (Option Value)} {st : List Value}
theorem bz_topi {x y : Int32} (h : x = y) (k : bz_V l ad K n M d r σ' pc ls (.int y :: st) σ) : bz_V l ad K n M d r σ' pc ls (.int x :: st) σ := by rw [h]; exact k
theorem bz_topl {x y : Int64} (h : x = y) (k : bz_V l ad K n M d r σ' pc ls (.long y :: st) σ) : bz_V l ad K n M d r σ' pc ls (.long x :: st) σ := by rw [h]; exact k
theorem bz_st (h : σ = σ2) (k : bz_V l ad K n M d r σ' pc ls st σ2) : bz_V l ad K n M d r σ' pc ls st σ := by rw [h]; exact k
end XP2
end
section
/-! Bases: moves between weights and numbers before members -/
theorem zsum_congr {f g : Nat → Int64} : ∀ (m a : Nat), (∀ i, a ≤ i → i < a + m → f i = g i) → zsum f a m = zsum g a m
  | 0, _, _ => rfl
  | m + 1, a, h => by rw [zsum, zsum, h a (Nat.le_refl a) (by omega), zsum_congr m (a + 1) (fun i h1 h2 => h i (by omega) (by omega))]
abbrev ba_K (σ : bz_S) (a b : Nat) : Int64 := (σ.2.1 7 (a * 30 + b)).toInt64
abbrev ba_X (σ : bz_S) (a b : Nat) : Int64 := (σ.2.1 8 (a * 30 + b)).toInt64
section BA
variable {l : Launch} {ad : Nat → Nat} {K : bz_K} {σ σ' : bz_S} {kx ky : Nat} {r : Option Value}
theorem t_startFor (hT : pz_T σ.2.1) {b : Nat} (hb : b < 30) : bz_V l ad K 73 mX0_startFor 1 (some (.int (nI (xt_start b)))) σ 0 [some (.ref (ad 9)), some (.int (nI b))] [] σ := by
  refine bz_aload_n dX0_startFor_0 rfl ?_
  refine bz_getf fl_X0_18 dX0_startFor_1 rfl rfl (by omega) ?_
  refine bz_getf fl_X0_50 dX0_startFor_4 rfl rfl (by omega) ?_
  refine bz_iload_n dX0_startFor_7 rfl ?_
  refine bz_iaload dX0_startFor_8 rfl (by omega) (by omega) ?_
  refine bz_topi (hT.1 b hb) ?_
  refine bz_cSN1I (z := 0) mv_X1_startOf ws_X1_startOf lk_X0_56 dX0_startFor_9 (by exact t_startOf (xt_deg6 b hb)) (by omega) rfl (Nat.le_of_ble_eq_true rfl) (Nat.le_of_ble_eq_true rfl) ?_
  refine bz_iret dX0_startFor_12 rfl rfl rfl
theorem t_endFor (hT : pz_T σ.2.1) {b : Nat} (hb : b < 30) : bz_V l ad K 73 mX0_endFor 1 (some (.int (nI (xt_end b)))) σ 0 [some (.ref (ad 9)), some (.int (nI b))] [] σ := by
  refine bz_aload_n dX0_endFor_0 rfl ?_
  refine bz_getf fl_X0_18 dX0_endFor_1 rfl rfl (by omega) ?_
  refine bz_getf fl_X0_50 dX0_endFor_4 rfl rfl (by omega) ?_
  refine bz_iload_n dX0_endFor_7 rfl ?_
  refine bz_iaload dX0_endFor_8 rfl (by omega) (by omega) ?_
  refine bz_topi (hT.1 b hb) ?_
  refine bz_cSN1I (z := 0) mv_X1_endOf ws_X1_endOf lk_X0_60 dX0_endFor_9 (by exact t_endOf (xt_deg6 b hb)) (by omega) rfl (Nat.le_of_ble_eq_true rfl) (Nat.le_of_ble_eq_true rfl) ?_
  refine bz_iret dX0_endFor_12 rfl rfl rfl
theorem t_tW_in {b : Nat} {T : Int64} (hb : b < 30) (hx : bz_sh kx = (1, 30, 0, [])) (hkx : kx < 73)
    (k : bz_V l ad K 73 mX0_tableauxToWeights 2 r σ' 51 [some (.ref (ad 9)), some (.ref (ad kx)), some (.ref (ad ky)), some (.int (nI b)), some (.long T), none, some (.int (nI (b + 1)))] [] σ) :
    ∀ (m a : Nat) (acc : Int64), a + m = b + 1 → acc + zsum (fun a => σ.1 kx a * ba_K σ a b) a m = T → bz_V l ad K 73 mX0_tableauxToWeights 2 r σ' 18 [some (.ref (ad 9)), some (.ref (ad kx)), some (.ref (ad ky)), some (.int (nI b)), some (.long acc), none, some (.int (nI a))] [] σ := by
  intro m
  induction m with
  | zero =>
    intro a acc ha hs
    obtain rfl : a = b + 1 := by omega
    obtain rfl := zsum_end hs
    refine bz_iload dX0_tableauxToWeights_18 rfl ?_
    refine bz_iload_n dX0_tableauxToWeights_20 rfl ?_
    refine bz_icmp_gtN (tgt := 51) dX0_tableauxToWeights_21 rfl (by omega) (by omega) (fun _ => ?_) (fun q => absurd q (by omega))
    exact k
  | succ m ih =>
    intro a acc ha hs
    refine bz_iload dX0_tableauxToWeights_18 rfl ?_
    refine bz_iload_n dX0_tableauxToWeights_20 rfl ?_
    refine bz_icmp_gtN (tgt := 51) dX0_tableauxToWeights_21 rfl (by omega) (by omega) (fun q => absurd q (by omega)) (fun _ => ?_)
    refine bz_lload dX0_tableauxToWeights_24 rfl ?_
    refine bz_aload_n dX0_tableauxToWeights_26 rfl ?_
    refine bz_iload dX0_tableauxToWeights_27 rfl ?_
    refine bz_laload dX0_tableauxToWeights_29 hx (by omega) (by omega) ?_
    refine bz_aload_n dX0_tableauxToWeights_30 rfl ?_
    refine bz_getf fl_X0_18 dX0_tableauxToWeights_31 rfl rfl (by omega) ?_
    refine bz_iload dX0_tableauxToWeights_34 rfl ?_
    refine bz_iload_n dX0_tableauxToWeights_36 rfl ?_
    refine bz_cVN2I (z := 0) mv_X1_kostkaOf mi_X1_kostkaOf lk_X0_66 dX0_tableauxToWeights_37 (by exact t_kostkaOf (by omega) (by omega) hb) (by omega) rfl (by omega) rfl rfl rfl (Nat.le_of_ble_eq_true rfl) (Nat.le_of_ble_eq_true rfl) ?_
    refine bz_i2l dX0_tableauxToWeights_40 ?_
    refine bz_lmul dX0_tableauxToWeights_41 ?_
    refine bz_ladd dX0_tableauxToWeights_42 ?_
    refine bz_lst4 dX0_tableauxToWeights_43 (by decide) rfl ?_
    first | refine bz_iinc6N dX0_tableauxToWeights_45 (by decide) rfl ?_ | refine bz_iinc6 dX0_tableauxToWeights_45 rfl (by decide) rfl ?_
    refine bz_goto (tgt := 18) dX0_tableauxToWeights_48 rfl ?_
    have hs2 := zsum_step hs
    exact ih (a + 1) _ (by omega) hs2
theorem t_tW_out (hx : bz_sh kx = (1, 30, 0, [])) (hy : bz_sh ky = (1, 30, 0, [])) (hkx : kx < 73) (hky : ky < 73) (hne : kx ≠ ky) (hT : pz_T σ.2.1) {F : Nat → Int64} (hF : ∀ b, b < 30 → F b = zsum (fun a => σ.1 kx a * ba_K σ a b) (xt_start b) (b + 1 - xt_start b)) :
    ∀ (m b : Nat) (x4 x5 x6 : Option Value), b + m = 30 → bz_V l ad K 73 mX0_tableauxToWeights 2 none (bz_setJ σ ky (bz_upto (σ.1 ky) F 30)) 2 [some (.ref (ad 9)), some (.ref (ad kx)), some (.ref (ad ky)), some (.int (nI b)), x4, x5, x6] [] (bz_setJ σ ky (bz_upto (σ.1 ky) F b)) := by
  intro m
  induction m with
  | zero =>
    intro b x4 x5 x6 hb
    obtain rfl : b = 30 := by omega
    refine bz_iload_n dX0_tableauxToWeights_2 rfl ?_
    refine bz_bipush dX0_tableauxToWeights_3 kc_bipush_30 ?_
    refine bz_icmp_geN (tgt := 62) dX0_tableauxToWeights_5 rfl (by omega) (by omega) (fun _ => ?_) (fun q => absurd q (by omega))
    refine bz_vret dX0_tableauxToWeights_62 rfl rfl
  | succ m ih =>
    intro b x4 x5 x6 hb
    have h30 : b < 30 := by omega
    have hse := xt_se b h30
    refine bz_iload_n dX0_tableauxToWeights_2 rfl ?_
    refine bz_bipush dX0_tableauxToWeights_3 kc_bipush_30 ?_
    refine bz_icmp_geN (tgt := 62) dX0_tableauxToWeights_5 rfl (by omega) (by omega) (fun q => absurd q (by omega)) (fun _ => ?_)
    refine bz_lconst dX0_tableauxToWeights_8 kc_lconst_0 ?_
    refine bz_lst4 dX0_tableauxToWeights_9 (by decide) rfl ?_
    refine bz_aload_n dX0_tableauxToWeights_11 rfl ?_
    refine bz_iload_n dX0_tableauxToWeights_12 rfl ?_
    refine bz_cV1I (z := 0) mv_X0_startFor mi_X0_startFor lk_X0_63 dX0_tableauxToWeights_13 (by exact t_startFor (by exact hT) h30) (by omega) rfl (by omega) rfl rfl rfl (Nat.le_of_ble_eq_true rfl) (Nat.le_of_ble_eq_true rfl) ?_
    refine bz_ist6 dX0_tableauxToWeights_16 (by decide) rfl ?_
    refine t_tW_in (T := F b) h30 hx hkx ?_ (b + 1 - xt_start b) (xt_start b) 0 (by omega) ?_
    · refine bz_aload_n dX0_tableauxToWeights_51 rfl ?_
      refine bz_iload_n dX0_tableauxToWeights_52 rfl ?_
      refine bz_lload dX0_tableauxToWeights_53 rfl ?_
      refine bz_lastore dX0_tableauxToWeights_55 hy (by omega) h30 ?_
      first | refine bz_iinc3N dX0_tableauxToWeights_56 (by decide) rfl ?_ | refine bz_iinc3 dX0_tableauxToWeights_56 rfl (by decide) rfl ?_
      refine bz_goto (tgt := 2) dX0_tableauxToWeights_59 rfl ?_
      refine bz_st (by rw [bz_upJ_set, bz_upto_s rfl]) ?_
      exact ih (b + 1) _ _ _ (by omega)
    · rw [Int64.zero_add, hF b h30, bz_setJ_ne hne]
      rfl
theorem t_tW (hx : bz_sh kx = (1, 30, 0, [])) (hy : bz_sh ky = (1, 30, 0, [])) (hkx : kx < 73) (hky : ky < 73) (hne : kx ≠ ky) (hT : pz_T σ.2.1) {F : Nat → Int64} (hF : ∀ b, b < 30 → F b = zsum (fun a => σ.1 kx a * ba_K σ a b) (xt_start b) (b + 1 - xt_start b)) : bz_V l ad K 73 mX0_tableauxToWeights 2 none (bz_setJ σ ky (bz_upto (σ.1 ky) F 30)) 0 [some (.ref (ad 9)), some (.ref (ad kx)), some (.ref (ad ky)), none, none, none, none] [] σ := by
  refine bz_iconst dX0_tableauxToWeights_0 kc_iconst_0 ?_
  refine bz_ist3 dX0_tableauxToWeights_1 (by decide) rfl ?_
  refine bz_st (by rw [bz_setJ_id (bz_upto_0 _ F)]) (t_tW_out hx hy hkx hky hne hT hF 30 0 none none none rfl)
theorem t_wT_in {b : Nat} {T : Int64} (hb : b < 30) (hy : bz_sh ky = (1, 30, 0, [])) (hky : ky < 73)
    (k : bz_V l ad K 73 mX0_weightsToTableaux 2 r σ' 53 [some (.ref (ad 9)), some (.ref (ad kx)), some (.ref (ad ky)), some (.int (nI b)), some (.long T), none, some (.int (nI b))] [] σ) :
    ∀ (m a : Nat) (acc : Int64), a + m = b → acc - zsum (fun a => σ.1 ky a * ba_K σ a b) a m = T → bz_V l ad K 73 mX0_weightsToTableaux 2 r σ' 20 [some (.ref (ad 9)), some (.ref (ad kx)), some (.ref (ad ky)), some (.int (nI b)), some (.long acc), none, some (.int (nI a))] [] σ := by
  intro m
  induction m with
  | zero =>
    intro a acc ha hs
    obtain rfl : a = b := by omega
    obtain rfl := zsub_end hs
    refine bz_iload dX0_weightsToTableaux_20 rfl ?_
    refine bz_iload_n dX0_weightsToTableaux_22 rfl ?_
    refine bz_icmp_geN (tgt := 53) dX0_weightsToTableaux_23 rfl (by omega) (by omega) (fun _ => ?_) (fun q => absurd q (by omega))
    exact k
  | succ m ih =>
    intro a acc ha hs
    refine bz_iload dX0_weightsToTableaux_20 rfl ?_
    refine bz_iload_n dX0_weightsToTableaux_22 rfl ?_
    refine bz_icmp_geN (tgt := 53) dX0_weightsToTableaux_23 rfl (by omega) (by omega) (fun q => absurd q (by omega)) (fun _ => ?_)
    refine bz_lload dX0_weightsToTableaux_26 rfl ?_
    refine bz_aload_n dX0_weightsToTableaux_28 rfl ?_
    refine bz_iload dX0_weightsToTableaux_29 rfl ?_
    refine bz_laload dX0_weightsToTableaux_31 hy (by omega) (by omega) ?_
    refine bz_aload_n dX0_weightsToTableaux_32 rfl ?_
    refine bz_getf fl_X0_18 dX0_weightsToTableaux_33 rfl rfl (by omega) ?_
    refine bz_iload dX0_weightsToTableaux_36 rfl ?_
    refine bz_iload_n dX0_weightsToTableaux_38 rfl ?_
    refine bz_cVN2I (z := 0) mv_X1_kostkaOf mi_X1_kostkaOf lk_X0_66 dX0_weightsToTableaux_39 (by exact t_kostkaOf (by omega) (by omega) hb) (by omega) rfl (by omega) rfl rfl rfl (Nat.le_of_ble_eq_true rfl) (Nat.le_of_ble_eq_true rfl) ?_
    refine bz_i2l dX0_weightsToTableaux_42 ?_
    refine bz_lmul dX0_weightsToTableaux_43 ?_
    refine bz_lsub dX0_weightsToTableaux_44 ?_
    refine bz_lst4 dX0_weightsToTableaux_45 (by decide) rfl ?_
    first | refine bz_iinc6N dX0_weightsToTableaux_47 (by decide) rfl ?_ | refine bz_iinc6 dX0_weightsToTableaux_47 rfl (by decide) rfl ?_
    refine bz_goto (tgt := 20) dX0_weightsToTableaux_50 rfl ?_
    have hs2 := zsub_step hs
    exact ih (a + 1) _ (by omega) hs2
theorem t_wT_out (hx : bz_sh kx = (1, 30, 0, [])) (hy : bz_sh ky = (1, 30, 0, [])) (hkx : kx < 73) (hky : ky < 73) (hne : kx ≠ ky) (hT : pz_T σ.2.1) {F : Nat → Int64} (hF : ∀ b, b < 30 → F b = σ.1 kx b - zsum (fun a => F a * ba_K σ a b) (xt_start b) (b - xt_start b)) :
    ∀ (m b : Nat) (x4 x5 x6 : Option Value), b + m = 30 → bz_V l ad K 73 mX0_weightsToTableaux 2 none (bz_setJ σ ky (bz_upto (σ.1 ky) F 30)) 2 [some (.ref (ad 9)), some (.ref (ad kx)), some (.ref (ad ky)), some (.int (nI b)), x4, x5, x6] [] (bz_setJ σ ky (bz_upto (σ.1 ky) F b)) := by
  intro m
  induction m with
  | zero =>
    intro b x4 x5 x6 hb
    obtain rfl : b = 30 := by omega
    refine bz_iload_n dX0_weightsToTableaux_2 rfl ?_
    refine bz_bipush dX0_weightsToTableaux_3 kc_bipush_30 ?_
    refine bz_icmp_geN (tgt := 64) dX0_weightsToTableaux_5 rfl (by omega) (by omega) (fun _ => ?_) (fun q => absurd q (by omega))
    refine bz_vret dX0_weightsToTableaux_64 rfl rfl
  | succ m ih =>
    intro b x4 x5 x6 hb
    have h30 : b < 30 := by omega
    have hse := xt_se b h30
    refine bz_iload_n dX0_weightsToTableaux_2 rfl ?_
    refine bz_bipush dX0_weightsToTableaux_3 kc_bipush_30 ?_
    refine bz_icmp_geN (tgt := 64) dX0_weightsToTableaux_5 rfl (by omega) (by omega) (fun q => absurd q (by omega)) (fun _ => ?_)
    refine bz_aload_n dX0_weightsToTableaux_8 rfl ?_
    refine bz_iload_n dX0_weightsToTableaux_9 rfl ?_
    refine bz_laload dX0_weightsToTableaux_10 hx (by omega) h30 ?_
    refine bz_lst4 dX0_weightsToTableaux_11 (by decide) rfl ?_
    refine bz_aload_n dX0_weightsToTableaux_13 rfl ?_
    refine bz_iload_n dX0_weightsToTableaux_14 rfl ?_
    refine bz_cV1I (z := 0) mv_X0_startFor mi_X0_startFor lk_X0_63 dX0_weightsToTableaux_15 (by exact t_startFor (by exact hT) h30) (by omega) rfl (by omega) rfl rfl rfl (Nat.le_of_ble_eq_true rfl) (Nat.le_of_ble_eq_true rfl) ?_
    refine bz_ist6 dX0_weightsToTableaux_18 (by decide) rfl ?_
    refine t_wT_in (T := F b) h30 hy hky ?_ (b - xt_start b) (xt_start b) _ (by omega) ?_
    · refine bz_aload_n dX0_weightsToTableaux_53 rfl ?_
      refine bz_iload_n dX0_weightsToTableaux_54 rfl ?_
      refine bz_lload dX0_weightsToTableaux_55 rfl ?_
      refine bz_lastore dX0_weightsToTableaux_57 hy (by omega) h30 ?_
      first | refine bz_iinc3N dX0_weightsToTableaux_58 (by decide) rfl ?_ | refine bz_iinc3 dX0_weightsToTableaux_58 rfl (by decide) rfl ?_
      refine bz_goto (tgt := 2) dX0_weightsToTableaux_61 rfl ?_
      refine bz_st (by rw [bz_upJ_set, bz_upto_s rfl]) ?_
      exact ih (b + 1) _ _ _ (by omega)
    · rw [hF b h30, bz_setJ_ne hne, bz_setJ_at]
      refine congrArg (fun z => σ.1 kx b - z) (zsum_congr _ _ (fun i h1 h2 => ?_))
      rw [bz_upto_lt (by omega)]
      rfl
theorem t_wT (hx : bz_sh kx = (1, 30, 0, [])) (hy : bz_sh ky = (1, 30, 0, [])) (hkx : kx < 73) (hky : ky < 73) (hne : kx ≠ ky) (hT : pz_T σ.2.1) {F : Nat → Int64} (hF : ∀ b, b < 30 → F b = σ.1 kx b - zsum (fun a => F a * ba_K σ a b) (xt_start b) (b - xt_start b)) : bz_V l ad K 73 mX0_weightsToTableaux 2 none (bz_setJ σ ky (bz_upto (σ.1 ky) F 30)) 0 [some (.ref (ad 9)), some (.ref (ad kx)), some (.ref (ad ky)), none, none, none, none] [] σ := by
  refine bz_iconst dX0_weightsToTableaux_0 kc_iconst_0 ?_
  refine bz_ist3 dX0_weightsToTableaux_1 (by decide) rfl ?_
  refine bz_st (by rw [bz_setJ_id (bz_upto_0 _ F)]) (t_wT_out hx hy hkx hky hne hT hF 30 0 none none none rfl)
theorem t_cT_in {b : Nat} {T : Int64} (hb : b < 30) (hx : bz_sh kx = (1, 30, 0, [])) (hkx : kx < 73) (hT : pz_T σ.2.1)
    (k : bz_V l ad K 73 mX0_completesToTableaux 2 r σ' 51 [some (.ref (ad 9)), some (.ref (ad kx)), some (.ref (ad ky)), some (.int (nI b)), some (.long T), none, some (.int (nI (xt_end b)))] [] σ) :
    ∀ (m a : Nat) (acc : Int64), a + m = xt_end b → acc + zsum (fun i => σ.1 kx i * ba_K σ b i) a m = T → bz_V l ad K 73 mX0_completesToTableaux 2 r σ' 14 [some (.ref (ad 9)), some (.ref (ad kx)), some (.ref (ad ky)), some (.int (nI b)), some (.long acc), none, some (.int (nI a))] [] σ := by
  have hse := xt_se b hb
  intro m
  induction m with
  | zero =>
    intro a acc ha hs
    obtain rfl : a = xt_end b := by omega
    obtain rfl := zsum_end hs
    refine bz_iload dX0_completesToTableaux_14 rfl ?_
    refine bz_aload_n dX0_completesToTableaux_16 rfl ?_
    refine bz_iload_n dX0_completesToTableaux_17 rfl ?_
    refine bz_cV1I (z := 0) mv_X0_endFor mi_X0_endFor lk_X0_70 dX0_completesToTableaux_18 (by exact t_endFor (by exact hT) hb) (by omega) rfl (by omega) rfl rfl rfl (Nat.le_of_ble_eq_true rfl) (Nat.le_of_ble_eq_true rfl) ?_
    refine bz_icmp_geN (tgt := 51) dX0_completesToTableaux_21 rfl (by omega) (by omega) (fun _ => ?_) (fun q => absurd q (by omega))
    exact k
  | succ m ih =>
    intro a acc ha hs
    refine bz_iload dX0_completesToTableaux_14 rfl ?_
    refine bz_aload_n dX0_completesToTableaux_16 rfl ?_
    refine bz_iload_n dX0_completesToTableaux_17 rfl ?_
    refine bz_cV1I (z := 0) mv_X0_endFor mi_X0_endFor lk_X0_70 dX0_completesToTableaux_18 (by exact t_endFor (by exact hT) hb) (by omega) rfl (by omega) rfl rfl rfl (Nat.le_of_ble_eq_true rfl) (Nat.le_of_ble_eq_true rfl) ?_
    refine bz_icmp_geN (tgt := 51) dX0_completesToTableaux_21 rfl (by omega) (by omega) (fun q => absurd q (by omega)) (fun _ => ?_)
    refine bz_lload dX0_completesToTableaux_24 rfl ?_
    refine bz_aload_n dX0_completesToTableaux_26 rfl ?_
    refine bz_iload dX0_completesToTableaux_27 rfl ?_
    refine bz_laload dX0_completesToTableaux_29 hx (by omega) (by omega) ?_
    refine bz_aload_n dX0_completesToTableaux_30 rfl ?_
    refine bz_getf fl_X0_18 dX0_completesToTableaux_31 rfl rfl (by omega) ?_
    refine bz_iload_n dX0_completesToTableaux_34 rfl ?_
    refine bz_iload dX0_completesToTableaux_35 rfl ?_
    refine bz_cVN2I (z := 0) mv_X1_kostkaOf mi_X1_kostkaOf lk_X0_66 dX0_completesToTableaux_37 (by exact t_kostkaOf (by omega) hb (by omega)) (by omega) rfl (by omega) rfl rfl rfl (Nat.le_of_ble_eq_true rfl) (Nat.le_of_ble_eq_true rfl) ?_
    refine bz_i2l dX0_completesToTableaux_40 ?_
    refine bz_lmul dX0_completesToTableaux_41 ?_
    refine bz_ladd dX0_completesToTableaux_42 ?_
    refine bz_lst4 dX0_completesToTableaux_43 (by decide) rfl ?_
    first | refine bz_iinc6N dX0_completesToTableaux_45 (by decide) rfl ?_ | refine bz_iinc6 dX0_completesToTableaux_45 rfl (by decide) rfl ?_
    refine bz_goto (tgt := 14) dX0_completesToTableaux_48 rfl ?_
    have hs2 := zsum_step hs
    exact ih (a + 1) _ (by omega) hs2
theorem t_pT_in {b : Nat} {T : Int64} (hb : b < 30) (hx : bz_sh kx = (1, 30, 0, [])) (hkx : kx < 73) (hT : pz_T σ.2.1)
    (k : bz_V l ad K 73 mX0_powersToTableaux 2 r σ' 55 [some (.ref (ad 9)), some (.ref (ad kx)), some (.ref (ad ky)), some (.int (nI b)), some (.long T), none, some (.int (nI (xt_end b)))] [] σ) :
    ∀ (m a : Nat) (acc : Int64), a + m = xt_end b → acc + zsum (fun i => σ.1 kx i * ba_X σ b i) a m = T → bz_V l ad K 73 mX0_powersToTableaux 2 r σ' 18 [some (.ref (ad 9)), some (.ref (ad kx)), some (.ref (ad ky)), some (.int (nI b)), some (.long acc), none, some (.int (nI a))] [] σ := by
  have hse := xt_se b hb
  intro m
  induction m with
  | zero =>
    intro a acc ha hs
    obtain rfl : a = xt_end b := by omega
    obtain rfl := zsum_end hs
    refine bz_iload dX0_powersToTableaux_18 rfl ?_
    refine bz_aload_n dX0_powersToTableaux_20 rfl ?_
    refine bz_iload_n dX0_powersToTableaux_21 rfl ?_
    refine bz_cV1I (z := 0) mv_X0_endFor mi_X0_endFor lk_X0_70 dX0_powersToTableaux_22 (by exact t_endFor (by exact hT) hb) (by omega) rfl (by omega) rfl rfl rfl (Nat.le_of_ble_eq_true rfl) (Nat.le_of_ble_eq_true rfl) ?_
    refine bz_icmp_geN (tgt := 55) dX0_powersToTableaux_25 rfl (by omega) (by omega) (fun _ => ?_) (fun q => absurd q (by omega))
    exact k
  | succ m ih =>
    intro a acc ha hs
    refine bz_iload dX0_powersToTableaux_18 rfl ?_
    refine bz_aload_n dX0_powersToTableaux_20 rfl ?_
    refine bz_iload_n dX0_powersToTableaux_21 rfl ?_
    refine bz_cV1I (z := 0) mv_X0_endFor mi_X0_endFor lk_X0_70 dX0_powersToTableaux_22 (by exact t_endFor (by exact hT) hb) (by omega) rfl (by omega) rfl rfl rfl (Nat.le_of_ble_eq_true rfl) (Nat.le_of_ble_eq_true rfl) ?_
    refine bz_icmp_geN (tgt := 55) dX0_powersToTableaux_25 rfl (by omega) (by omega) (fun q => absurd q (by omega)) (fun _ => ?_)
    refine bz_lload dX0_powersToTableaux_28 rfl ?_
    refine bz_aload_n dX0_powersToTableaux_30 rfl ?_
    refine bz_iload dX0_powersToTableaux_31 rfl ?_
    refine bz_laload dX0_powersToTableaux_33 hx (by omega) (by omega) ?_
    refine bz_aload_n dX0_powersToTableaux_34 rfl ?_
    refine bz_getf fl_X0_18 dX0_powersToTableaux_35 rfl rfl (by omega) ?_
    refine bz_iload_n dX0_powersToTableaux_38 rfl ?_
    refine bz_iload dX0_powersToTableaux_39 rfl ?_
    refine bz_cVN2I (z := 0) mv_X1_characterOf mi_X1_characterOf lk_X0_73 dX0_powersToTableaux_41 (by exact t_characterOf (by omega) hb (by omega)) (by omega) rfl (by omega) rfl rfl rfl (Nat.le_of_ble_eq_true rfl) (Nat.le_of_ble_eq_true rfl) ?_
    refine bz_i2l dX0_powersToTableaux_44 ?_
    refine bz_lmul dX0_powersToTableaux_45 ?_
    refine bz_ladd dX0_powersToTableaux_46 ?_
    refine bz_lst4 dX0_powersToTableaux_47 (by decide) rfl ?_
    first | refine bz_iinc6N dX0_powersToTableaux_49 (by decide) rfl ?_ | refine bz_iinc6 dX0_powersToTableaux_49 rfl (by decide) rfl ?_
    refine bz_goto (tgt := 18) dX0_powersToTableaux_52 rfl ?_
    have hs2 := zsum_step hs
    exact ih (a + 1) _ (by omega) hs2
theorem t_tP_in {b : Nat} {T : Int64} (hb : b < 30) (hx : bz_sh kx = (1, 30, 0, [])) (hkx : kx < 73) (hT : pz_T σ.2.1)
    (k : bz_V l ad K 73 mX0_tableauxToPowers 2 r σ' 55 [some (.ref (ad 9)), some (.ref (ad kx)), some (.ref (ad ky)), some (.int (nI b)), some (.long T), none, some (.int (nI (xt_end b)))] [] σ) :
    ∀ (m a : Nat) (acc : Int64), a + m = xt_end b → acc + zsum (fun i => σ.1 kx i * ba_X σ i b) a m = T → bz_V l ad K 73 mX0_tableauxToPowers 2 r σ' 18 [some (.ref (ad 9)), some (.ref (ad kx)), some (.ref (ad ky)), some (.int (nI b)), some (.long acc), none, some (.int (nI a))] [] σ := by
  have hse := xt_se b hb
  intro m
  induction m with
  | zero =>
    intro a acc ha hs
    obtain rfl : a = xt_end b := by omega
    obtain rfl := zsum_end hs
    refine bz_iload dX0_tableauxToPowers_18 rfl ?_
    refine bz_aload_n dX0_tableauxToPowers_20 rfl ?_
    refine bz_iload_n dX0_tableauxToPowers_21 rfl ?_
    refine bz_cV1I (z := 0) mv_X0_endFor mi_X0_endFor lk_X0_70 dX0_tableauxToPowers_22 (by exact t_endFor (by exact hT) hb) (by omega) rfl (by omega) rfl rfl rfl (Nat.le_of_ble_eq_true rfl) (Nat.le_of_ble_eq_true rfl) ?_
    refine bz_icmp_geN (tgt := 55) dX0_tableauxToPowers_25 rfl (by omega) (by omega) (fun _ => ?_) (fun q => absurd q (by omega))
    exact k
  | succ m ih =>
    intro a acc ha hs
    refine bz_iload dX0_tableauxToPowers_18 rfl ?_
    refine bz_aload_n dX0_tableauxToPowers_20 rfl ?_
    refine bz_iload_n dX0_tableauxToPowers_21 rfl ?_
    refine bz_cV1I (z := 0) mv_X0_endFor mi_X0_endFor lk_X0_70 dX0_tableauxToPowers_22 (by exact t_endFor (by exact hT) hb) (by omega) rfl (by omega) rfl rfl rfl (Nat.le_of_ble_eq_true rfl) (Nat.le_of_ble_eq_true rfl) ?_
    refine bz_icmp_geN (tgt := 55) dX0_tableauxToPowers_25 rfl (by omega) (by omega) (fun q => absurd q (by omega)) (fun _ => ?_)
    refine bz_lload dX0_tableauxToPowers_28 rfl ?_
    refine bz_aload_n dX0_tableauxToPowers_30 rfl ?_
    refine bz_iload dX0_tableauxToPowers_31 rfl ?_
    refine bz_laload dX0_tableauxToPowers_33 hx (by omega) (by omega) ?_
    refine bz_aload_n dX0_tableauxToPowers_34 rfl ?_
    refine bz_getf fl_X0_18 dX0_tableauxToPowers_35 rfl rfl (by omega) ?_
    refine bz_iload dX0_tableauxToPowers_38 rfl ?_
    refine bz_iload_n dX0_tableauxToPowers_40 rfl ?_
    refine bz_cVN2I (z := 0) mv_X1_characterOf mi_X1_characterOf lk_X0_73 dX0_tableauxToPowers_41 (by exact t_characterOf (by omega) (by omega) hb) (by omega) rfl (by omega) rfl rfl rfl (Nat.le_of_ble_eq_true rfl) (Nat.le_of_ble_eq_true rfl) ?_
    refine bz_i2l dX0_tableauxToPowers_44 ?_
    refine bz_lmul dX0_tableauxToPowers_45 ?_
    refine bz_ladd dX0_tableauxToPowers_46 ?_
    refine bz_lst4 dX0_tableauxToPowers_47 (by decide) rfl ?_
    first | refine bz_iinc6N dX0_tableauxToPowers_49 (by decide) rfl ?_ | refine bz_iinc6 dX0_tableauxToPowers_49 rfl (by decide) rfl ?_
    refine bz_goto (tgt := 18) dX0_tableauxToPowers_52 rfl ?_
    have hs2 := zsum_step hs
    exact ih (a + 1) _ (by omega) hs2
theorem t_cT_out (hx : bz_sh kx = (1, 30, 0, [])) (hy : bz_sh ky = (1, 30, 0, [])) (hkx : kx < 73) (hky : ky < 73) (hne : kx ≠ ky) (hT : pz_T σ.2.1) {F : Nat → Int64} (hF : ∀ b, b < 30 → F b = zsum (fun i => σ.1 kx i * ba_K σ b i) (b) (xt_end b - b)) :
    ∀ (m b : Nat) (x4 x5 x6 : Option Value), b + m = 30 → bz_V l ad K 73 mX0_completesToTableaux 2 none (bz_setJ σ ky (bz_upto (σ.1 ky) F 30)) 2 [some (.ref (ad 9)), some (.ref (ad kx)), some (.ref (ad ky)), some (.int (nI b)), x4, x5, x6] [] (bz_setJ σ ky (bz_upto (σ.1 ky) F b)) := by
  intro m
  induction m with
  | zero =>
    intro b x4 x5 x6 hb
    obtain rfl : b = 30 := by omega
    refine bz_iload_n dX0_completesToTableaux_2 rfl ?_
    refine bz_bipush dX0_completesToTableaux_3 kc_bipush_30 ?_
    refine bz_icmp_geN (tgt := 62) dX0_completesToTableaux_5 rfl (by omega) (by omega) (fun _ => ?_) (fun q => absurd q (by omega))
    refine bz_vret dX0_completesToTableaux_62 rfl rfl
  | succ m ih =>
    intro b x4 x5 x6 hb
    have h30 : b < 30 := by omega
    have hse := xt_se b h30
    refine bz_iload_n dX0_completesToTableaux_2 rfl ?_
    refine bz_bipush dX0_completesToTableaux_3 kc_bipush_30 ?_
    refine bz_icmp_geN (tgt := 62) dX0_completesToTableaux_5 rfl (by omega) (by omega) (fun q => absurd q (by omega)) (fun _ => ?_)
    refine bz_lconst dX0_completesToTableaux_8 kc_lconst_0 ?_
    refine bz_lst4 dX0_completesToTableaux_9 (by decide) rfl ?_
    refine bz_iload_n dX0_completesToTableaux_11 rfl ?_
    refine bz_ist6 dX0_completesToTableaux_12 (by decide) rfl ?_
    refine t_cT_in (T := F b) h30 hx hkx (by exact hT) ?_ (xt_end b - b) (b) 0 (by omega) ?_
    · refine bz_aload_n dX0_completesToTableaux_51 rfl ?_
      refine bz_iload_n dX0_completesToTableaux_52 rfl ?_
      refine bz_lload dX0_completesToTableaux_53 rfl ?_
      refine bz_lastore dX0_completesToTableaux_55 hy (by omega) h30 ?_
      first | refine bz_iinc3N dX0_completesToTableaux_56 (by decide) rfl ?_ | refine bz_iinc3 dX0_completesToTableaux_56 rfl (by decide) rfl ?_
      refine bz_goto (tgt := 2) dX0_completesToTableaux_59 rfl ?_
      refine bz_st (by rw [bz_upJ_set, bz_upto_s rfl]) ?_
      exact ih (b + 1) _ _ _ (by omega)
    · rw [Int64.zero_add, hF b h30, bz_setJ_ne hne]
      rfl
theorem t_cT (hx : bz_sh kx = (1, 30, 0, [])) (hy : bz_sh ky = (1, 30, 0, [])) (hkx : kx < 73) (hky : ky < 73) (hne : kx ≠ ky) (hT : pz_T σ.2.1) {F : Nat → Int64} (hF : ∀ b, b < 30 → F b = zsum (fun i => σ.1 kx i * ba_K σ b i) (b) (xt_end b - b)) : bz_V l ad K 73 mX0_completesToTableaux 2 none (bz_setJ σ ky (bz_upto (σ.1 ky) F 30)) 0 [some (.ref (ad 9)), some (.ref (ad kx)), some (.ref (ad ky)), none, none, none, none] [] σ := by
  refine bz_iconst dX0_completesToTableaux_0 kc_iconst_0 ?_
  refine bz_ist3 dX0_completesToTableaux_1 (by decide) rfl ?_
  refine bz_st (by rw [bz_setJ_id (bz_upto_0 _ F)]) (t_cT_out hx hy hkx hky hne hT hF 30 0 none none none rfl)
theorem t_pT_out (hx : bz_sh kx = (1, 30, 0, [])) (hy : bz_sh ky = (1, 30, 0, [])) (hkx : kx < 73) (hky : ky < 73) (hne : kx ≠ ky) (hT : pz_T σ.2.1) {F : Nat → Int64} (hF : ∀ b, b < 30 → F b = zsum (fun i => σ.1 kx i * ba_X σ b i) (xt_start b) (xt_end b - xt_start b)) :
    ∀ (m b : Nat) (x4 x5 x6 : Option Value), b + m = 30 → bz_V l ad K 73 mX0_powersToTableaux 2 none (bz_setJ σ ky (bz_upto (σ.1 ky) F 30)) 2 [some (.ref (ad 9)), some (.ref (ad kx)), some (.ref (ad ky)), some (.int (nI b)), x4, x5, x6] [] (bz_setJ σ ky (bz_upto (σ.1 ky) F b)) := by
  intro m
  induction m with
  | zero =>
    intro b x4 x5 x6 hb
    obtain rfl : b = 30 := by omega
    refine bz_iload_n dX0_powersToTableaux_2 rfl ?_
    refine bz_bipush dX0_powersToTableaux_3 kc_bipush_30 ?_
    refine bz_icmp_geN (tgt := 66) dX0_powersToTableaux_5 rfl (by omega) (by omega) (fun _ => ?_) (fun q => absurd q (by omega))
    refine bz_vret dX0_powersToTableaux_66 rfl rfl
  | succ m ih =>
    intro b x4 x5 x6 hb
    have h30 : b < 30 := by omega
    have hse := xt_se b h30
    refine bz_iload_n dX0_powersToTableaux_2 rfl ?_
    refine bz_bipush dX0_powersToTableaux_3 kc_bipush_30 ?_
    refine bz_icmp_geN (tgt := 66) dX0_powersToTableaux_5 rfl (by omega) (by omega) (fun q => absurd q (by omega)) (fun _ => ?_)
    refine bz_lconst dX0_powersToTableaux_8 kc_lconst_0 ?_
    refine bz_lst4 dX0_powersToTableaux_9 (by decide) rfl ?_
    refine bz_aload_n dX0_powersToTableaux_11 rfl ?_
    refine bz_iload_n dX0_powersToTableaux_12 rfl ?_
    refine bz_cV1I (z := 0) mv_X0_startFor mi_X0_startFor lk_X0_63 dX0_powersToTableaux_13 (by exact t_startFor (by exact hT) h30) (by omega) rfl (by omega) rfl rfl rfl (Nat.le_of_ble_eq_true rfl) (Nat.le_of_ble_eq_true rfl) ?_
    refine bz_ist6 dX0_powersToTableaux_16 (by decide) rfl ?_
    refine t_pT_in (T := F b) h30 hx hkx (by exact hT) ?_ (xt_end b - xt_start b) (xt_start b) 0 (by omega) ?_
    · refine bz_aload_n dX0_powersToTableaux_55 rfl ?_
      refine bz_iload_n dX0_powersToTableaux_56 rfl ?_
      refine bz_lload dX0_powersToTableaux_57 rfl ?_
      refine bz_lastore dX0_powersToTableaux_59 hy (by omega) h30 ?_
      first | refine bz_iinc3N dX0_powersToTableaux_60 (by decide) rfl ?_ | refine bz_iinc3 dX0_powersToTableaux_60 rfl (by decide) rfl ?_
      refine bz_goto (tgt := 2) dX0_powersToTableaux_63 rfl ?_
      refine bz_st (by rw [bz_upJ_set, bz_upto_s rfl]) ?_
      exact ih (b + 1) _ _ _ (by omega)
    · rw [Int64.zero_add, hF b h30, bz_setJ_ne hne]
      rfl
theorem t_pT (hx : bz_sh kx = (1, 30, 0, [])) (hy : bz_sh ky = (1, 30, 0, [])) (hkx : kx < 73) (hky : ky < 73) (hne : kx ≠ ky) (hT : pz_T σ.2.1) {F : Nat → Int64} (hF : ∀ b, b < 30 → F b = zsum (fun i => σ.1 kx i * ba_X σ b i) (xt_start b) (xt_end b - xt_start b)) : bz_V l ad K 73 mX0_powersToTableaux 2 none (bz_setJ σ ky (bz_upto (σ.1 ky) F 30)) 0 [some (.ref (ad 9)), some (.ref (ad kx)), some (.ref (ad ky)), none, none, none, none] [] σ := by
  refine bz_iconst dX0_powersToTableaux_0 kc_iconst_0 ?_
  refine bz_ist3 dX0_powersToTableaux_1 (by decide) rfl ?_
  refine bz_st (by rw [bz_setJ_id (bz_upto_0 _ F)]) (t_pT_out hx hy hkx hky hne hT hF 30 0 none none none rfl)
theorem t_tP_out (hx : bz_sh kx = (1, 30, 0, [])) (hy : bz_sh ky = (1, 30, 0, [])) (hkx : kx < 73) (hky : ky < 73) (hne : kx ≠ ky) (hT : pz_T σ.2.1) {F : Nat → Int64} (hF : ∀ b, b < 30 → F b = zsum (fun i => σ.1 kx i * ba_X σ i b) (xt_start b) (xt_end b - xt_start b) * (nI (720 / xt_z b)).toInt64) :
    ∀ (m b : Nat) (x4 x5 x6 : Option Value), b + m = 30 → bz_V l ad K 73 mX0_tableauxToPowers 2 none (bz_setJ σ ky (bz_upto (σ.1 ky) F 30)) 2 [some (.ref (ad 9)), some (.ref (ad kx)), some (.ref (ad ky)), some (.int (nI b)), x4, x5, x6] [] (bz_setJ σ ky (bz_upto (σ.1 ky) F b)) := by
  intro m
  induction m with
  | zero =>
    intro b x4 x5 x6 hb
    obtain rfl : b = 30 := by omega
    refine bz_iload_n dX0_tableauxToPowers_2 rfl ?_
    refine bz_bipush dX0_tableauxToPowers_3 kc_bipush_30 ?_
    refine bz_icmp_geN (tgt := 94) dX0_tableauxToPowers_5 rfl (by omega) (by omega) (fun _ => ?_) (fun q => absurd q (by omega))
    refine bz_vret dX0_tableauxToPowers_94 rfl rfl
  | succ m ih =>
    intro b x4 x5 x6 hb
    have h30 : b < 30 := by omega
    have hse := xt_se b h30
    have hz := xt_zpos b h30
    refine bz_iload_n dX0_tableauxToPowers_2 rfl ?_
    refine bz_bipush dX0_tableauxToPowers_3 kc_bipush_30 ?_
    refine bz_icmp_geN (tgt := 94) dX0_tableauxToPowers_5 rfl (by omega) (by omega) (fun q => absurd q (by omega)) (fun _ => ?_)
    refine bz_lconst dX0_tableauxToPowers_8 kc_lconst_0 ?_
    refine bz_lst4 dX0_tableauxToPowers_9 (by decide) rfl ?_
    refine bz_aload_n dX0_tableauxToPowers_11 rfl ?_
    refine bz_iload_n dX0_tableauxToPowers_12 rfl ?_
    refine bz_cV1I (z := 0) mv_X0_startFor mi_X0_startFor lk_X0_63 dX0_tableauxToPowers_13 (by exact t_startFor (by exact hT) h30) (by omega) rfl (by omega) rfl rfl rfl (Nat.le_of_ble_eq_true rfl) (Nat.le_of_ble_eq_true rfl) ?_
    refine bz_ist6 dX0_tableauxToPowers_16 (by decide) rfl ?_
    refine t_tP_in (T := zsum (fun i => σ.1 kx i * ba_X σ i b) (xt_start b) (xt_end b - xt_start b)) h30 hx hkx (by exact hT) ?_ (xt_end b - xt_start b) (xt_start b) 0 (by omega) ?_
    · refine bz_aload_n dX0_tableauxToPowers_55 rfl ?_
      refine bz_getf fl_X0_18 dX0_tableauxToPowers_56 rfl rfl (by omega) ?_
      refine bz_getf fl_X0_76 dX0_tableauxToPowers_59 rfl rfl (by omega) ?_
      refine bz_iload_n dX0_tableauxToPowers_62 rfl ?_
      refine bz_iaload dX0_tableauxToPowers_63 rfl (by omega) (by omega) ?_
      refine bz_topi (hT.2.2.2.2.1 b h30) ?_
      refine bz_ist6 dX0_tableauxToPowers_64 (by decide) rfl ?_
      refine bz_aload_n dX0_tableauxToPowers_66 rfl ?_
      refine bz_iload_n dX0_tableauxToPowers_67 rfl ?_
      refine bz_iload dX0_tableauxToPowers_68 rfl ?_
      refine bz_if_le (tgt := 86) dX0_tableauxToPowers_70 rfl (fun q => absurd q (nI_nle hz.1 (by omega))) (fun _ => ?_)
      refine bz_lload dX0_tableauxToPowers_73 rfl ?_
      refine bz_sipush dX0_tableauxToPowers_75 kc_sipush_720 ?_
      refine bz_iload dX0_tableauxToPowers_78 rfl ?_
      refine bz_idivN dX0_tableauxToPowers_80 (by omega) hz.1 (by omega) ?_
      refine bz_i2l dX0_tableauxToPowers_81 ?_
      refine bz_lmul dX0_tableauxToPowers_82 ?_
      refine bz_goto (tgt := 87) dX0_tableauxToPowers_83 rfl ?_
      refine bz_lastore dX0_tableauxToPowers_87 hy (by omega) h30 ?_
      first | refine bz_iinc3N dX0_tableauxToPowers_88 (by decide) rfl ?_ | refine bz_iinc3 dX0_tableauxToPowers_88 rfl (by decide) rfl ?_
      refine bz_goto (tgt := 2) dX0_tableauxToPowers_91 rfl ?_
      refine bz_st (by rw [bz_upJ_set, bz_upto_s (hF b h30).symm]) ?_
      exact ih (b + 1) _ _ _ (by omega)
    · rw [Int64.zero_add, bz_setJ_ne hne]
      rfl
theorem t_tP (hx : bz_sh kx = (1, 30, 0, [])) (hy : bz_sh ky = (1, 30, 0, [])) (hkx : kx < 73) (hky : ky < 73) (hne : kx ≠ ky) (hT : pz_T σ.2.1) {F : Nat → Int64} (hF : ∀ b, b < 30 → F b = zsum (fun i => σ.1 kx i * ba_X σ i b) (xt_start b) (xt_end b - xt_start b) * (nI (720 / xt_z b)).toInt64) : bz_V l ad K 73 mX0_tableauxToPowers 2 none (bz_setJ σ ky (bz_upto (σ.1 ky) F 30)) 0 [some (.ref (ad 9)), some (.ref (ad kx)), some (.ref (ad ky)), none, none, none, none] [] σ := by
  refine bz_iconst dX0_tableauxToPowers_0 kc_iconst_0 ?_
  refine bz_ist3 dX0_tableauxToPowers_1 (by decide) rfl ?_
  refine bz_st (by rw [bz_setJ_id (bz_upto_0 _ F)]) (t_tP_out hx hy hkx hky hne hT hF 30 0 none none none rfl)
theorem t_tC_in {b : Nat} {T : Int64} (hb : b < 30) (hy : bz_sh ky = (1, 30, 0, [])) (hky : ky < 73) (hT : pz_T σ.2.1)
    (k : bz_V l ad K 73 mX0_tableauxToCompletes 2 r σ' 54 [some (.ref (ad 9)), some (.ref (ad kx)), some (.ref (ad ky)), some (.int (nI b)), some (.long T), none, some (.int (nI (xt_end b)))] [] σ) :
    ∀ (m a : Nat) (acc : Int64), a + m = xt_end b → acc - zsum (fun i => σ.1 ky i * ba_K σ b i) a m = T → bz_V l ad K 73 mX0_tableauxToCompletes 2 r σ' 17 [some (.ref (ad 9)), some (.ref (ad kx)), some (.ref (ad ky)), some (.int (nI b)), some (.long acc), none, some (.int (nI a))] [] σ := by
  have hse := xt_se b hb
  intro m
  induction m with
  | zero =>
    intro a acc ha hs
    obtain rfl : a = xt_end b := by omega
    obtain rfl := zsub_end hs
    refine bz_iload dX0_tableauxToCompletes_17 rfl ?_
    refine bz_aload_n dX0_tableauxToCompletes_19 rfl ?_
    refine bz_iload_n dX0_tableauxToCompletes_20 rfl ?_
    refine bz_cV1I (z := 0) mv_X0_endFor mi_X0_endFor lk_X0_70 dX0_tableauxToCompletes_21 (by exact t_endFor (by exact hT) hb) (by omega) rfl (by omega) rfl rfl rfl (Nat.le_of_ble_eq_true rfl) (Nat.le_of_ble_eq_true rfl) ?_
    refine bz_icmp_geN (tgt := 54) dX0_tableauxToCompletes_24 rfl (by omega) (by omega) (fun _ => ?_) (fun q => absurd q (by omega))
    exact k
  | succ m ih =>
    intro a acc ha hs
    refine bz_iload dX0_tableauxToCompletes_17 rfl ?_
    refine bz_aload_n dX0_tableauxToCompletes_19 rfl ?_
    refine bz_iload_n dX0_tableauxToCompletes_20 rfl ?_
    refine bz_cV1I (z := 0) mv_X0_endFor mi_X0_endFor lk_X0_70 dX0_tableauxToCompletes_21 (by exact t_endFor (by exact hT) hb) (by omega) rfl (by omega) rfl rfl rfl (Nat.le_of_ble_eq_true rfl) (Nat.le_of_ble_eq_true rfl) ?_
    refine bz_icmp_geN (tgt := 54) dX0_tableauxToCompletes_24 rfl (by omega) (by omega) (fun q => absurd q (by omega)) (fun _ => ?_)
    refine bz_lload dX0_tableauxToCompletes_27 rfl ?_
    refine bz_aload_n dX0_tableauxToCompletes_29 rfl ?_
    refine bz_iload dX0_tableauxToCompletes_30 rfl ?_
    refine bz_laload dX0_tableauxToCompletes_32 hy (by omega) (by omega) ?_
    refine bz_aload_n dX0_tableauxToCompletes_33 rfl ?_
    refine bz_getf fl_X0_18 dX0_tableauxToCompletes_34 rfl rfl (by omega) ?_
    refine bz_iload_n dX0_tableauxToCompletes_37 rfl ?_
    refine bz_iload dX0_tableauxToCompletes_38 rfl ?_
    refine bz_cVN2I (z := 0) mv_X1_kostkaOf mi_X1_kostkaOf lk_X0_66 dX0_tableauxToCompletes_40 (by exact t_kostkaOf (by omega) hb (by omega)) (by omega) rfl (by omega) rfl rfl rfl (Nat.le_of_ble_eq_true rfl) (Nat.le_of_ble_eq_true rfl) ?_
    refine bz_i2l dX0_tableauxToCompletes_43 ?_
    refine bz_lmul dX0_tableauxToCompletes_44 ?_
    refine bz_lsub dX0_tableauxToCompletes_45 ?_
    refine bz_lst4 dX0_tableauxToCompletes_46 (by decide) rfl ?_
    first | refine bz_iinc6N dX0_tableauxToCompletes_48 (by decide) rfl ?_ | refine bz_iinc6 dX0_tableauxToCompletes_48 rfl (by decide) rfl ?_
    refine bz_goto (tgt := 17) dX0_tableauxToCompletes_51 rfl ?_
    have hs2 := zsub_step hs
    exact ih (a + 1) _ (by omega) hs2
theorem t_tC_body (hx : bz_sh kx = (1, 30, 0, [])) (hy : bz_sh ky = (1, 30, 0, [])) (hkx : kx < 73) (hky : ky < 73) (hne : kx ≠ ky) (hT : pz_T σ.2.1) {F : Nat → Int64} (hF : ∀ b, b < 30 → F b = σ.1 kx b - zsum (fun i => F i * ba_K σ b i) (b + 1) (xt_end b - (b + 1))) {b : Nat} (h30 : b < 30) (x4 x5 x6 : Option Value)
    (k : ∀ (x4 x5 x6 : Option Value), bz_V l ad K 73 mX0_tableauxToCompletes 2 r σ' 59 [some (.ref (ad 9)), some (.ref (ad kx)), some (.ref (ad ky)), some (.int (nI b)), x4, x5, x6] [] (bz_setJ σ ky (bz_from (σ.1 ky) F b 30))) :
    bz_V l ad K 73 mX0_tableauxToCompletes 2 r σ' 3 [some (.ref (ad 9)), some (.ref (ad kx)), some (.ref (ad ky)), some (.int (nI b)), x4, x5, x6] [] (bz_setJ σ ky (bz_from (σ.1 ky) F (b + 1) 30)) := by
  have hse := xt_se b h30
  refine bz_iload_n dX0_tableauxToCompletes_3 rfl ?_
  refine bz_if_lt (tgt := 65) dX0_tableauxToCompletes_4 rfl (fun q => absurd q (nI_pos (by omega))) (fun _ => ?_)
  refine bz_aload_n dX0_tableauxToCompletes_7 rfl ?_
  refine bz_iload_n dX0_tableauxToCompletes_8 rfl ?_
  refine bz_laload dX0_tableauxToCompletes_9 hx (by omega) h30 ?_
  refine bz_lst4 dX0_tableauxToCompletes_10 (by decide) rfl ?_
  refine bz_iload_n dX0_tableauxToCompletes_12 rfl ?_
  refine bz_iconst dX0_tableauxToCompletes_13 kc_iconst_1 ?_
  first | refine bz_iaddN dX0_tableauxToCompletes_14 ?_ | refine bz_iadd dX0_tableauxToCompletes_14 ?_
  refine bz_ist6 dX0_tableauxToCompletes_15 (by decide) rfl ?_
  refine t_tC_in (T := F b) h30 hy hky (by exact hT) ?_ (xt_end b - (b + 1)) (b + 1) _ (by omega) ?_
  · refine bz_aload_n dX0_tableauxToCompletes_54 rfl ?_
    refine bz_iload_n dX0_tableauxToCompletes_55 rfl ?_
    refine bz_lload dX0_tableauxToCompletes_56 rfl ?_
    refine bz_lastore dX0_tableauxToCompletes_58 hy (by omega) h30 ?_
    refine bz_st (by rw [bz_upJ_set, bz_from_s h30 rfl]) ?_
    exact k _ _ _
  · rw [hF b h30, bz_setJ_ne hne, bz_setJ_at]
    refine congrArg (fun z => σ.1 kx b - z) (zsum_congr _ _ (fun i h1 h2 => ?_))
    rw [bz_from_in (by omega) (by omega)]
    rfl
theorem t_tC_out (hx : bz_sh kx = (1, 30, 0, [])) (hy : bz_sh ky = (1, 30, 0, [])) (hkx : kx < 73) (hky : ky < 73) (hne : kx ≠ ky) (hT : pz_T σ.2.1) {F : Nat → Int64} (hF : ∀ b, b < 30 → F b = σ.1 kx b - zsum (fun i => F i * ba_K σ b i) (b + 1) (xt_end b - (b + 1))) :
    ∀ (b : Nat) (x4 x5 x6 : Option Value), b < 30 → bz_V l ad K 73 mX0_tableauxToCompletes 2 none (bz_setJ σ ky (bz_upto (σ.1 ky) F 30)) 3 [some (.ref (ad 9)), some (.ref (ad kx)), some (.ref (ad ky)), some (.int (nI b)), x4, x5, x6] [] (bz_setJ σ ky (bz_from (σ.1 ky) F (b + 1) 30)) := by
  intro b
  induction b with
  | zero =>
    intro x4 x5 x6 hb
    refine t_tC_body hx hy hkx hky hne hT hF (by omega) x4 x5 x6 (fun x4 x5 x6 => ?_)
    refine bz_iinc3 dX0_tableauxToCompletes_59 rfl (by decide) rfl ?_
    refine bz_goto (tgt := 3) dX0_tableauxToCompletes_62 rfl ?_
    refine bz_iload_n dX0_tableauxToCompletes_3 rfl ?_
    refine bz_if_lt (tgt := 65) dX0_tableauxToCompletes_4 rfl (fun _ => ?_) (fun q => absurd (by decide) q)
    refine bz_vret dX0_tableauxToCompletes_65 rfl ?_
    rw [bz_from_0]
  | succ b ih =>
    intro x4 x5 x6 hb
    refine t_tC_body hx hy hkx hky hne hT hF hb x4 x5 x6 (fun x4 x5 x6 => ?_)
    first | refine bz_idec3N dX0_tableauxToCompletes_59 (by decide) rfl ?_ | refine bz_iinc3 dX0_tableauxToCompletes_59 rfl (by decide) rfl ?_
    refine bz_goto (tgt := 3) dX0_tableauxToCompletes_62 rfl ?_
    exact ih _ _ _ (by omega)
theorem t_tC (hx : bz_sh kx = (1, 30, 0, [])) (hy : bz_sh ky = (1, 30, 0, [])) (hkx : kx < 73) (hky : ky < 73) (hne : kx ≠ ky) (hT : pz_T σ.2.1) {F : Nat → Int64} (hF : ∀ b, b < 30 → F b = σ.1 kx b - zsum (fun i => F i * ba_K σ b i) (b + 1) (xt_end b - (b + 1))) : bz_V l ad K 73 mX0_tableauxToCompletes 2 none (bz_setJ σ ky (bz_upto (σ.1 ky) F 30)) 0 [some (.ref (ad 9)), some (.ref (ad kx)), some (.ref (ad ky)), none, none, none, none] [] σ := by
  refine bz_bipush dX0_tableauxToCompletes_0 kc_bipush_29 ?_
  refine bz_ist3 dX0_tableauxToCompletes_2 (by decide) rfl ?_
  refine bz_st (by rw [bz_setJ_id (bz_from_n _ F 30)]) (t_tC_out hx hy hkx hky hne hT hF 29 none none none (by omega))
end BA
end
section
/-! conjugate, fill, fromWeights, toWeights -/
theorem xt_conj2 : ∀ i, i < 30 → xt_conj (xt_conj i) = i := by decide +kernel
def bz_cj (f x : Nat → Int64) (a : Nat) : Nat → Int64 := fun j => if j < 30 ∧ xt_conj j < a then x (xt_conj j) else f j
theorem bz_cj_0 (f x : Nat → Int64) : bz_cj f x 0 = f := by
  funext j
  simp [bz_cj]
theorem bz_cj_30 (f x : Nat → Int64) : bz_cj f x 30 = bz_upto f (fun j => x (xt_conj j)) 30 := by
  funext j
  unfold bz_cj bz_upto
  by_cases h : j < 30
  · simp [h, xt_conj30 j h]
  · simp [h]
theorem bz_cj_s {f x : Nat → Int64} {a : Nat} (ha : a < 30) : vp_updL (bz_cj f x a) (xt_conj a) (x a) = bz_cj f x (a + 1) := by
  funext j
  unfold vp_updL bz_cj
  by_cases e : j = xt_conj a
  · subst e
    simp [xt_conj2 a ha, xt_conj30 a ha]
  · rw [if_neg e]
    by_cases h : j < 30
    · have hne : xt_conj j ≠ a := fun q => e (by rw [← q, xt_conj2 j h])
      by_cases q : xt_conj j < a
      · simp [h, q, Nat.lt_succ_of_lt q]
      · simp [h, q, show ¬ xt_conj j < a + 1 by omega]
    · simp [h]
section BB
variable {l : Launch} {ad : Nat → Nat} {K : bz_K} {σ σ' : bz_S} {kx ky : Nat} {r : Option Value}
theorem t_cj_out (hx : bz_sh kx = (1, 30, 0, [])) (hy : bz_sh ky = (1, 30, 0, [])) (hkx : kx < 73) (hky : ky < 73) (hne : kx ≠ ky) (hT : pz_T σ.2.1) :
    ∀ (m a : Nat) (x4 : Option Value), a + m = 30 → bz_V l ad K 73 mX0_conjugate 1 none (bz_setJ σ ky (bz_upto (σ.1 ky) (fun j => σ.1 kx (xt_conj j)) 30)) 2 [some (.ref (ad 9)), some (.ref (ad kx)), some (.ref (ad ky)), some (.int (nI a)), x4] [] (bz_setJ σ ky (bz_cj (σ.1 ky) (σ.1 kx) a)) := by
  intro m
  induction m with
  | zero =>
    intro a x4 ha
    obtain rfl : a = 30 := by omega
    refine bz_iload_n dX0_conjugate_2 rfl ?_
    refine bz_bipush dX0_conjugate_3 kc_bipush_30 ?_
    refine bz_icmp_geN (tgt := 40) dX0_conjugate_5 rfl (by omega) (by omega) (fun _ => ?_) (fun q => absurd q (by omega))
    refine bz_vret dX0_conjugate_40 rfl (by rw [bz_cj_30])
  | succ m ih =>
    intro a x4 ha
    have h30 : a < 30 := by omega
    have hc := xt_conj30 a h30
    refine bz_iload_n dX0_conjugate_2 rfl ?_
    refine bz_bipush dX0_conjugate_3 kc_bipush_30 ?_
    refine bz_icmp_geN (tgt := 40) dX0_conjugate_5 rfl (by omega) (by omega) (fun q => absurd q (by omega)) (fun _ => ?_)
    refine bz_aload_n dX0_conjugate_8 rfl ?_
    refine bz_getf fl_X0_18 dX0_conjugate_9 rfl rfl (by omega) ?_
    refine bz_getf fl_X0_79 dX0_conjugate_12 rfl rfl (by omega) ?_
    refine bz_iload_n dX0_conjugate_15 rfl ?_
    refine bz_iaload dX0_conjugate_16 rfl (by omega) (by omega) ?_
    refine bz_topi (hT.2.2.2.1 a h30) ?_
    refine bz_ist4 dX0_conjugate_17 (by decide) rfl ?_
    refine bz_iload dX0_conjugate_19 rfl ?_
    refine bz_cSN1I (z := 0) mv_X3_isPartition ws_X3_isPartition lk_X0_82 dX0_conjugate_21 (by exact t_isPart hc) (by omega) rfl (Nat.le_of_ble_eq_true rfl) (Nat.le_of_ble_eq_true rfl) ?_
    refine bz_if_eq (tgt := 34) dX0_conjugate_24 rfl (fun q => absurd q (by decide)) (fun _ => ?_)
    refine bz_aload_n dX0_conjugate_27 rfl ?_
    refine bz_iload dX0_conjugate_28 rfl ?_
    refine bz_aload_n dX0_conjugate_30 rfl ?_
    refine bz_iload_n dX0_conjugate_31 rfl ?_
    refine bz_laload dX0_conjugate_32 hx (by omega) h30 ?_
    refine bz_topl (y := σ.1 kx a) (by rw [bz_setJ_ne hne]) ?_
    refine bz_lastore dX0_conjugate_33 hy (by omega) hc ?_
    first | refine bz_iinc3N dX0_conjugate_34 (by decide) rfl ?_ | refine bz_iinc3 dX0_conjugate_34 rfl (by decide) rfl ?_
    refine bz_goto (tgt := 2) dX0_conjugate_37 rfl ?_
    refine bz_st (by rw [bz_upJ_set, bz_cj_s h30]) ?_
    exact ih (a + 1) _ (by omega)
theorem t_cj (hx : bz_sh kx = (1, 30, 0, [])) (hy : bz_sh ky = (1, 30, 0, [])) (hkx : kx < 73) (hky : ky < 73) (hne : kx ≠ ky) (hT : pz_T σ.2.1) : bz_V l ad K 73 mX0_conjugate 1 none (bz_setJ σ ky (bz_upto (σ.1 ky) (fun j => σ.1 kx (xt_conj j)) 30)) 0 [some (.ref (ad 9)), some (.ref (ad kx)), some (.ref (ad ky)), none, none] [] σ := by
  refine bz_iconst dX0_conjugate_0 kc_iconst_0 ?_
  refine bz_ist3 dX0_conjugate_1 (by decide) rfl ?_
  refine bz_st (by rw [bz_setJ_id (bz_cj_0 _ _)]) (t_cj_out hx hy hkx hky hne hT 30 0 none rfl)
theorem t_fill_out {x : Int64} (hy : bz_sh ky = (1, 30, 0, [])) (hky : ky < 73) :
    ∀ (m a : Nat), a + m = 30 → bz_V l ad K 73 mJ7_fill_d0a16 0 none (bz_setJ σ ky (bz_upto (σ.1 ky) (fun _ => x) 30)) 6 [some (.ref (ad ky)), some (.long x), none, some (.int (nI a)), some (.int (nI 30))] [] (bz_setJ σ ky (bz_upto (σ.1 ky) (fun _ => x) a)) := by
  intro m
  induction m with
  | zero =>
    intro a ha
    obtain rfl : a = 30 := by omega
    refine bz_iload_n dJ7_fill_d0a16_6 rfl ?_
    refine bz_iload dJ7_fill_d0a16_7 rfl ?_
    refine bz_icmp_geN (tgt := 22) dJ7_fill_d0a16_9 rfl (by omega) (by omega) (fun _ => ?_) (fun q => absurd q (by omega))
    refine bz_vret dJ7_fill_d0a16_22 rfl rfl
  | succ m ih =>
    intro a ha
    have h30 : a < 30 := by omega
    refine bz_iload_n dJ7_fill_d0a16_6 rfl ?_
    refine bz_iload dJ7_fill_d0a16_7 rfl ?_
    refine bz_icmp_geN (tgt := 22) dJ7_fill_d0a16_9 rfl (by omega) (by omega) (fun q => absurd q (by omega)) (fun _ => ?_)
    refine bz_aload_n dJ7_fill_d0a16_12 rfl ?_
    refine bz_iload_n dJ7_fill_d0a16_13 rfl ?_
    refine bz_lload_n dJ7_fill_d0a16_14 rfl ?_
    refine bz_lastore dJ7_fill_d0a16_15 hy (by omega) h30 ?_
    first | refine bz_iinc3N dJ7_fill_d0a16_16 (by decide) rfl ?_ | refine bz_iinc3 dJ7_fill_d0a16_16 rfl (by decide) rfl ?_
    refine bz_goto (tgt := 6) dJ7_fill_d0a16_19 rfl ?_
    refine bz_st (by rw [bz_upJ_set, bz_upto_s rfl]) ?_
    exact ih (a + 1) (by omega)
theorem t_fill {x : Int64} (hy : bz_sh ky = (1, 30, 0, [])) (hky : ky < 73) : bz_V l ad K 73 mJ7_fill_d0a16 0 none (bz_setJ σ ky (bz_upto (σ.1 ky) (fun _ => x) 30)) 0 [some (.ref (ad ky)), some (.long x), none, none, none] [] σ := by
  refine bz_iconst dJ7_fill_d0a16_0 kc_iconst_0 ?_
  refine bz_ist3 dJ7_fill_d0a16_1 (by decide) rfl ?_
  refine bz_aload_n dJ7_fill_d0a16_2 rfl ?_
  refine bz_alen dJ7_fill_d0a16_3 hy (by omega) ?_
  refine bz_ist4 dJ7_fill_d0a16_4 (by decide) rfl ?_
  refine bz_st (by rw [bz_setJ_id (bz_upto_0 _ (fun _ => x))]) (t_fill_out hy hky 30 0 rfl)
/-- what changes: rows 10, 11 and ky alone -/
def bz_fw (σ σ2 : bz_S) (ky : Nat) : Prop := σ2.2 = σ.2 ∧ ∀ j, j ≠ 10 → j ≠ 11 → j ≠ ky → σ2.1 j = σ.1 j
/-- numbers before the s(a), out of weights -/
def ba_S (σ : bz_S) (w S : Nat → Int64) : Prop := ∀ b, b < 30 → S b = w b - zsum (fun a => S a * ba_K σ a b) (xt_start b) (b - xt_start b)
def ba_P (σ : bz_S) (S F : Nat → Int64) : Prop := ∀ b, b < 30 → F b = zsum (fun i => S i * ba_X σ i b) (xt_start b) (xt_end b - xt_start b) * (nI (720 / xt_z b)).toInt64
def ba_H (σ : bz_S) (S F : Nat → Int64) : Prop := ∀ b, b < 30 → F b = S b - zsum (fun i => F i * ba_K σ b i) (b + 1) (xt_end b - (b + 1))
/-- fromWeights by a base: what F is -/
def ba_from (σ : bz_S) (base : Nat) (w F : Nat → Int64) : Prop := match base with
  | 0 => ∀ b, b < 30 → F b = w b
  | 1 => ∃ S, ba_S σ w S ∧ ba_H σ (fun j => S (xt_conj j)) F
  | 2 => ∃ S, ba_S σ w S ∧ ba_H σ S F
  | 3 => ∃ S, ba_S σ w S ∧ ba_P σ S F
  | _ => ba_S σ w F
theorem ba_zc {σ σ2 : bz_S} {f g h : Nat → Int64} {s m : Nat} (hm : s + m ≤ 30) (h2 : σ2.2 = σ.2) (hf : ∀ j, j < 30 → f j = g j) (t : bz_S → Nat → Int64) (ht : t σ2 = t σ) : zsum (fun i => f i * t σ2 i) s m = zsum (fun i => g i * t σ i) s m :=
  zsum_congr _ _ (fun i h1 h3 => by rw [hf i (by omega), ht])
theorem ba_K_eq {σ σ2 : bz_S} (h : σ2.2 = σ.2) : ba_K σ2 = ba_K σ := by
  unfold ba_K
  rw [h]
theorem ba_X_eq {σ σ2 : bz_S} (h : σ2.2 = σ.2) : ba_X σ2 = ba_X σ := by
  unfold ba_X
  rw [h]
theorem t_fromW {base : Nat} {F : Nat → Int64} (hbase : base < 5) (hx : bz_sh kx = (1, 30, 0, [])) (hy : bz_sh ky = (1, 30, 0, [])) (hkx : kx < 73) (hky : ky < 73) (hne : kx ≠ ky) (hx10 : kx ≠ 10) (hx11 : kx ≠ 11) (hy10 : ky ≠ 10) (hy11 : ky ≠ 11) (hT : pz_T σ.2.1) (hF : ba_from σ base (σ.1 kx) F) :
    ∃ σ2, bz_V l ad K 73 mX0_fromWeights 3 none σ2 0 [some (.ref (ad 9)), some (.int (nI base)), some (.ref (ad kx)), some (.ref (ad ky))] [] σ ∧ bz_fw σ σ2 ky ∧ ∀ j, j < 30 → σ2.1 ky j = F j := by
  have h10 : bz_sh 10 = (1, 30, 0, []) := rfl
  have h11 : bz_sh 11 = (1, 30, 0, []) := rfl
  match base, hbase, hF with
  | 0, _, hF =>
    refine ⟨bz_setJ σ ky (fun j => if j < 30 then σ.1 kx j else σ.1 ky j), ?_, ⟨rfl, fun j _ _ h => bz_setJ_ne h⟩, fun j hj => by rw [bz_setJ_at, hF j hj]; simp [hj]⟩
    refine bz_iload_n dX0_fromWeights_0 rfl ?_
    refine bz_if_ne (tgt := 14) dX0_fromWeights_1 rfl (fun q => absurd (by decide) q) (fun _ => ?_)
    refine bz_aload_n dX0_fromWeights_4 rfl ?_
    refine bz_iconst dX0_fromWeights_5 kc_iconst_0 ?_
    refine bz_aload_n dX0_fromWeights_6 rfl ?_
    refine bz_iconst dX0_fromWeights_7 kc_iconst_0 ?_
    refine bz_bipush dX0_fromWeights_8 kc_bipush_30 ?_
    refine bz_copy lk_X0_22 wac_n wac_s wi_java_lang_System (by omega) dX0_fromWeights_10 hx hy (by omega) (by omega) (Nat.le_of_ble_eq_true rfl) ?_
    refine bz_vret dX0_fromWeights_13 rfl rfl
  | 1, _, hF =>
    obtain ⟨S, hS, hF⟩ := hF
    refine ⟨bz_setJ (bz_setJ (bz_setJ σ 10 (bz_upto (σ.1 10) S 30)) 11 (bz_upto (σ.1 11) (fun j => bz_upto (σ.1 10) S 30 (xt_conj j)) 30)) ky (bz_upto (σ.1 ky) F 30), ?_, ⟨rfl, fun j h1 h2 h => by rw [bz_setJ_ne h, bz_setJ_ne h2, bz_setJ_ne h1]⟩, fun j hj => by rw [bz_setJ_at, bz_upto_lt hj]⟩
    refine bz_iload_n dX0_fromWeights_0 rfl ?_
    refine bz_if_ne (tgt := 14) dX0_fromWeights_1 rfl (fun _ => ?_) (fun q => absurd q (by decide))
    refine bz_aload_n dX0_fromWeights_14 rfl ?_
    refine bz_aload_n dX0_fromWeights_15 rfl ?_
    refine bz_aload_n dX0_fromWeights_16 rfl ?_
    refine bz_getf fl_X0_9 dX0_fromWeights_17 rfl rfl (by omega) ?_
    refine bz_cV2U (z := 4) mv_X0_weightsToTableaux mi_X0_weightsToTableaux lk_X0_28 dX0_fromWeights_20 (by exact t_wT hx h10 hkx (by omega) hx10 (by exact hT) hS) (by omega) rfl (by omega) rfl rfl rfl (Nat.le_of_ble_eq_true rfl) (Nat.le_of_ble_eq_true rfl) ?_
    refine bz_iload_n dX0_fromWeights_23 rfl ?_
    refine bz_iconst dX0_fromWeights_24 kc_iconst_1 ?_
    refine bz_icmp_ne (tgt := 52) dX0_fromWeights_25 rfl (fun q => absurd (by decide) q) (fun _ => ?_)
    refine bz_aload_n dX0_fromWeights_28 rfl ?_
    refine bz_aload_n dX0_fromWeights_29 rfl ?_
    refine bz_getf fl_X0_9 dX0_fromWeights_30 rfl rfl (by omega) ?_
    refine bz_aload_n dX0_fromWeights_33 rfl ?_
    refine bz_getf fl_X0_15 dX0_fromWeights_34 rfl rfl (by omega) ?_
    refine bz_cV2U (z := 2) mv_X0_conjugate mi_X0_conjugate lk_X0_32 dX0_fromWeights_37 (by exact t_cj h10 h11 (by omega) (by omega) (by omega) (by exact hT)) (by omega) rfl (by omega) rfl rfl rfl (Nat.le_of_ble_eq_true rfl) (Nat.le_of_ble_eq_true rfl) ?_
    refine bz_st (σ2 := bz_setJ (bz_setJ σ 10 (bz_upto (σ.1 10) S 30)) 11 (bz_upto (σ.1 11) (fun j => bz_upto (σ.1 10) S 30 (xt_conj j)) 30)) (by rw [bz_setJ_at, bz_setJ_ne (by omega)]) ?_
    refine bz_aload_n dX0_fromWeights_40 rfl ?_
    refine bz_aload_n dX0_fromWeights_41 rfl ?_
    refine bz_getf fl_X0_15 dX0_fromWeights_42 rfl rfl (by omega) ?_
    refine bz_aload_n dX0_fromWeights_45 rfl ?_
    refine bz_cV2U (z := 4) mv_X0_tableauxToCompletes mi_X0_tableauxToCompletes lk_X0_35 dX0_fromWeights_46 (by exact t_tC (F := F) h11 hy (by omega) hky (fun q => hy11 q.symm) (by exact hT) (fun b hb => by have hse := xt_se b hb; have hc := xt_conj30 b hb; rw [hF b hb, bz_setJ_at, bz_upto_lt hb, bz_upto_lt hc]; rfl)) (by omega) rfl (by omega) rfl rfl rfl (Nat.le_of_ble_eq_true rfl) (Nat.le_of_ble_eq_true rfl) ?_
    refine bz_goto (tgt := 98) dX0_fromWeights_49 rfl ?_
    refine bz_vret dX0_fromWeights_98 rfl ?_
    rw [bz_setJ_ne hy11, bz_setJ_ne hy10]
  | 2, _, hF =>
    obtain ⟨S, hS, hF⟩ := hF
    refine ⟨bz_setJ (bz_setJ σ 10 (bz_upto (σ.1 10) S 30)) ky (bz_upto (σ.1 ky) F 30), ?_, ⟨rfl, fun j h1 h2 h => by rw [bz_setJ_ne h, bz_setJ_ne h1]⟩, fun j hj => by rw [bz_setJ_at, bz_upto_lt hj]⟩
    refine bz_iload_n dX0_fromWeights_0 rfl ?_
    refine bz_if_ne (tgt := 14) dX0_fromWeights_1 rfl (fun _ => ?_) (fun q => absurd q (by decide))
    refine bz_aload_n dX0_fromWeights_14 rfl ?_
    refine bz_aload_n dX0_fromWeights_15 rfl ?_
    refine bz_aload_n dX0_fromWeights_16 rfl ?_
    refine bz_getf fl_X0_9 dX0_fromWeights_17 rfl rfl (by omega) ?_
    refine bz_cV2U (z := 4) mv_X0_weightsToTableaux mi_X0_weightsToTableaux lk_X0_28 dX0_fromWeights_20 (by exact t_wT hx h10 hkx (by omega) hx10 (by exact hT) hS) (by omega) rfl (by omega) rfl rfl rfl (Nat.le_of_ble_eq_true rfl) (Nat.le_of_ble_eq_true rfl) ?_
    refine bz_iload_n dX0_fromWeights_23 rfl ?_
    refine bz_iconst dX0_fromWeights_24 kc_iconst_1 ?_
    refine bz_icmp_ne (tgt := 52) dX0_fromWeights_25 rfl (fun _ => ?_) (fun q => absurd q (by decide))
    refine bz_iload_n dX0_fromWeights_52 rfl ?_
    refine bz_iconst dX0_fromWeights_53 kc_iconst_2 ?_
    refine bz_icmp_ne (tgt := 69) dX0_fromWeights_54 rfl (fun q => absurd (by decide) q) (fun _ => ?_)
    refine bz_aload_n dX0_fromWeights_57 rfl ?_
    refine bz_aload_n dX0_fromWeights_58 rfl ?_
    refine bz_getf fl_X0_9 dX0_fromWeights_59 rfl rfl (by omega) ?_
    refine bz_aload_n dX0_fromWeights_62 rfl ?_
    refine bz_cV2U (z := 4) mv_X0_tableauxToCompletes mi_X0_tableauxToCompletes lk_X0_35 dX0_fromWeights_63 (by exact t_tC (F := F) h10 hy (by omega) hky (fun q => hy10 q.symm) (by exact hT) (fun b hb => by rw [hF b hb, bz_setJ_at, bz_upto_lt hb]; rfl)) (by omega) rfl (by omega) rfl rfl rfl (Nat.le_of_ble_eq_true rfl) (Nat.le_of_ble_eq_true rfl) ?_
    refine bz_goto (tgt := 98) dX0_fromWeights_66 rfl ?_
    refine bz_vret dX0_fromWeights_98 rfl ?_
    rw [bz_setJ_ne hy10]
  | 3, _, hF =>
    obtain ⟨S, hS, hF⟩ := hF
    refine ⟨bz_setJ (bz_setJ σ 10 (bz_upto (σ.1 10) S 30)) ky (bz_upto (σ.1 ky) F 30), ?_, ⟨rfl, fun j h1 h2 h => by rw [bz_setJ_ne h, bz_setJ_ne h1]⟩, fun j hj => by rw [bz_setJ_at, bz_upto_lt hj]⟩
    refine bz_iload_n dX0_fromWeights_0 rfl ?_
    refine bz_if_ne (tgt := 14) dX0_fromWeights_1 rfl (fun _ => ?_) (fun q => absurd q (by decide))
    refine bz_aload_n dX0_fromWeights_14 rfl ?_
    refine bz_aload_n dX0_fromWeights_15 rfl ?_
    refine bz_aload_n dX0_fromWeights_16 rfl ?_
    refine bz_getf fl_X0_9 dX0_fromWeights_17 rfl rfl (by omega) ?_
    refine bz_cV2U (z := 4) mv_X0_weightsToTableaux mi_X0_weightsToTableaux lk_X0_28 dX0_fromWeights_20 (by exact t_wT hx h10 hkx (by omega) hx10 (by exact hT) hS) (by omega) rfl (by omega) rfl rfl rfl (Nat.le_of_ble_eq_true rfl) (Nat.le_of_ble_eq_true rfl) ?_
    refine bz_iload_n dX0_fromWeights_23 rfl ?_
    refine bz_iconst dX0_fromWeights_24 kc_iconst_1 ?_
    refine bz_icmp_ne (tgt := 52) dX0_fromWeights_25 rfl (fun _ => ?_) (fun q => absurd q (by decide))
    refine bz_iload_n dX0_fromWeights_52 rfl ?_
    refine bz_iconst dX0_fromWeights_53 kc_iconst_2 ?_
    refine bz_icmp_ne (tgt := 69) dX0_fromWeights_54 rfl (fun _ => ?_) (fun q => absurd q (by decide))
    refine bz_iload_n dX0_fromWeights_69 rfl ?_
    refine bz_iconst dX0_fromWeights_70 kc_iconst_3 ?_
    refine bz_icmp_ne (tgt := 86) dX0_fromWeights_71 rfl (fun q => absurd (by decide) q) (fun _ => ?_)
    refine bz_aload_n dX0_fromWeights_74 rfl ?_
    refine bz_aload_n dX0_fromWeights_75 rfl ?_
    refine bz_getf fl_X0_9 dX0_fromWeights_76 rfl rfl (by omega) ?_
    refine bz_aload_n dX0_fromWeights_79 rfl ?_
    refine bz_cV2U (z := 4) mv_X0_tableauxToPowers mi_X0_tableauxToPowers lk_X0_38 dX0_fromWeights_80 (by exact t_tP (F := F) h10 hy (by omega) hky (fun q => hy10 q.symm) (by exact hT) (fun b hb => by have hse := xt_se b hb; rw [hF b hb, bz_setJ_at]; refine congrArg (fun z => z * (nI (720 / xt_z b)).toInt64) (zsum_congr _ _ (fun i h1 h2 => ?_)); rw [bz_upto_lt (by omega)]; rfl)) (by omega) rfl (by omega) rfl rfl rfl (Nat.le_of_ble_eq_true rfl) (Nat.le_of_ble_eq_true rfl) ?_
    refine bz_goto (tgt := 98) dX0_fromWeights_83 rfl ?_
    refine bz_vret dX0_fromWeights_98 rfl ?_
    rw [bz_setJ_ne hy10]
  | 4, _, hF =>
    refine ⟨bz_setJ (bz_setJ σ 10 (bz_upto (σ.1 10) F 30)) ky (fun j => if j < 30 then bz_upto (σ.1 10) F 30 j else σ.1 ky j), ?_, ⟨rfl, fun j h1 h2 h => by rw [bz_setJ_ne h, bz_setJ_ne h1]⟩, fun j hj => by rw [bz_setJ_at]; simp [hj, bz_upto]⟩
    refine bz_iload_n dX0_fromWeights_0 rfl ?_
    refine bz_if_ne (tgt := 14) dX0_fromWeights_1 rfl (fun _ => ?_) (fun q => absurd q (by decide))
    refine bz_aload_n dX0_fromWeights_14 rfl ?_
    refine bz_aload_n dX0_fromWeights_15 rfl ?_
    refine bz_aload_n dX0_fromWeights_16 rfl ?_
    refine bz_getf fl_X0_9 dX0_fromWeights_17 rfl rfl (by omega) ?_
    refine bz_cV2U (z := 4) mv_X0_weightsToTableaux mi_X0_weightsToTableaux lk_X0_28 dX0_fromWeights_20 (by exact t_wT hx h10 hkx (by omega) hx10 (by exact hT) hF) (by omega) rfl (by omega) rfl rfl rfl (Nat.le_of_ble_eq_true rfl) (Nat.le_of_ble_eq_true rfl) ?_
    refine bz_iload_n dX0_fromWeights_23 rfl ?_
    refine bz_iconst dX0_fromWeights_24 kc_iconst_1 ?_
    refine bz_icmp_ne (tgt := 52) dX0_fromWeights_25 rfl (fun _ => ?_) (fun q => absurd q (by decide))
    refine bz_iload_n dX0_fromWeights_52 rfl ?_
    refine bz_iconst dX0_fromWeights_53 kc_iconst_2 ?_
    refine bz_icmp_ne (tgt := 69) dX0_fromWeights_54 rfl (fun _ => ?_) (fun q => absurd q (by decide))
    refine bz_iload_n dX0_fromWeights_69 rfl ?_
    refine bz_iconst dX0_fromWeights_70 kc_iconst_3 ?_
    refine bz_icmp_ne (tgt := 86) dX0_fromWeights_71 rfl (fun _ => ?_) (fun q => absurd q (by decide))
    refine bz_aload_n dX0_fromWeights_86 rfl ?_
    refine bz_getf fl_X0_9 dX0_fromWeights_87 rfl rfl (by omega) ?_
    refine bz_iconst dX0_fromWeights_90 kc_iconst_0 ?_
    refine bz_aload_n dX0_fromWeights_91 rfl ?_
    refine bz_iconst dX0_fromWeights_92 kc_iconst_0 ?_
    refine bz_bipush dX0_fromWeights_93 kc_bipush_30 ?_
    refine bz_copy lk_X0_22 wac_n wac_s wi_java_lang_System (by omega) dX0_fromWeights_95 h10 hy (by omega) (by omega) (Nat.le_of_ble_eq_true rfl) ?_
    refine bz_vret dX0_fromWeights_98 rfl ?_
    rw [bz_setJ_at, bz_setJ_ne hy10]
  | n + 5, hb, _ => exact absurd hb (by omega)
end BB
end
section
/-! toWeights -/
def ba_W (σ : bz_S) (N W : Nat → Int64) : Prop := ∀ b, b < 30 → W b = zsum (fun a => N a * ba_K σ a b) (xt_start b) (b + 1 - xt_start b)
def ba_C (σ : bz_S) (x N : Nat → Int64) : Prop := ∀ b, b < 30 → N b = zsum (fun i => x i * ba_K σ b i) b (xt_end b - b)
def ba_T (σ : bz_S) (x N : Nat → Int64) : Prop := ∀ b, b < 30 → N b = zsum (fun i => x i * ba_X σ b i) (xt_start b) (xt_end b - xt_start b)
def ba_to (σ : bz_S) (base : Nat) (x W : Nat → Int64) : Prop := match base with
  | 0 => ∀ b, b < 30 → W b = x b
  | 1 => ∃ N, ba_C σ x N ∧ ba_W σ (fun j => N (xt_conj j)) W
  | 2 => ∃ N, ba_C σ x N ∧ ba_W σ N W
  | 3 => ∃ N, ba_T σ x N ∧ ba_W σ N W
  | _ => ba_W σ x W
section BC
variable {l : Launch} {ad : Nat → Nat} {K : bz_K} {σ σ' : bz_S} {kx ky : Nat} {r : Option Value}
theorem t_toW_end {S : bz_S} {N W : Nat → Int64} (hy : bz_sh ky = (1, 30, 0, [])) (hky : ky < 73) (hy10 : ky ≠ 10) (hT : pz_T S.2.1) (hN : ∀ j, j < 30 → S.1 10 j = N j) (hW : ba_W S N W) {x1 x2 : Option Value} : bz_V l ad K 73 mX0_toWeights 3 none (bz_setJ S ky (bz_upto (S.1 ky) W 30)) 89 [some (.ref (ad 9)), x1, x2, some (.ref (ad ky))] [] S := by
  have h10 : bz_sh 10 = (1, 30, 0, []) := rfl
  refine bz_aload_n dX0_toWeights_89 rfl ?_
  refine bz_aload_n dX0_toWeights_90 rfl ?_
  refine bz_getf fl_X0_9 dX0_toWeights_91 rfl rfl (by omega) ?_
  refine bz_aload_n dX0_toWeights_94 rfl ?_
  refine bz_cV2U (z := 4) mv_X0_tableauxToWeights mi_X0_tableauxToWeights lk_X0_47 dX0_toWeights_95 (by exact t_tW (F := W) h10 hy (by omega) hky (fun q => hy10 q.symm) (by exact hT) (fun b hb => by have hse := xt_se b hb; rw [hW b hb]; refine zsum_congr _ _ (fun i h1 h2 => ?_); rw [hN i (by omega)])) (by omega) rfl (by omega) rfl rfl rfl (Nat.le_of_ble_eq_true rfl) (Nat.le_of_ble_eq_true rfl) ?_
  refine bz_vret dX0_toWeights_98 rfl rfl
theorem t_toW {base : Nat} {W : Nat → Int64} (hbase : base < 5) (hx : bz_sh kx = (1, 30, 0, [])) (hy : bz_sh ky = (1, 30, 0, [])) (hkx : kx < 73) (hky : ky < 73) (hx10 : kx ≠ 10) (hx11 : kx ≠ 11) (hy10 : ky ≠ 10) (hy11 : ky ≠ 11) (hT : pz_T σ.2.1) (hF : ba_to σ base (σ.1 kx) W) :
    ∃ σ2, bz_V l ad K 73 mX0_toWeights 3 none σ2 0 [some (.ref (ad 9)), some (.int (nI base)), some (.ref (ad kx)), some (.ref (ad ky))] [] σ ∧ bz_fw σ σ2 ky ∧ ∀ j, j < 30 → σ2.1 ky j = W j := by
  have h10 : bz_sh 10 = (1, 30, 0, []) := rfl
  have h11 : bz_sh 11 = (1, 30, 0, []) := rfl
  match base, hbase, hF with
  | 0, _, hF =>
    refine ⟨bz_setJ σ ky (fun j => if j < 30 then σ.1 kx j else σ.1 ky j), ?_, ⟨rfl, fun j _ _ h => bz_setJ_ne h⟩, fun j hj => by rw [bz_setJ_at, hF j hj]; simp [hj]⟩
    refine bz_iload_n dX0_toWeights_0 rfl ?_
    refine bz_if_ne (tgt := 14) dX0_toWeights_1 rfl (fun q => absurd (by decide) q) (fun _ => ?_)
    refine bz_aload_n dX0_toWeights_4 rfl ?_
    refine bz_iconst dX0_toWeights_5 kc_iconst_0 ?_
    refine bz_aload_n dX0_toWeights_6 rfl ?_
    refine bz_iconst dX0_toWeights_7 kc_iconst_0 ?_
    refine bz_bipush dX0_toWeights_8 kc_bipush_30 ?_
    refine bz_copy lk_X0_22 wac_n wac_s wi_java_lang_System (by omega) dX0_toWeights_10 hx hy (by omega) (by omega) (Nat.le_of_ble_eq_true rfl) ?_
    refine bz_vret dX0_toWeights_13 rfl rfl
  | 1, _, hF =>
    obtain ⟨N, hN, hW⟩ := hF
    refine ⟨bz_setJ (bz_setJ (bz_setJ σ 11 (bz_upto (σ.1 11) N 30)) 10 (bz_upto (σ.1 10) (fun j => bz_upto (σ.1 11) N 30 (xt_conj j)) 30)) ky (bz_upto (σ.1 ky) W 30), ?_, ⟨rfl, fun j h1 h2 h => by rw [bz_setJ_ne h, bz_setJ_ne h1, bz_setJ_ne h2]⟩, fun j hj => by rw [bz_setJ_at, bz_upto_lt hj]⟩
    refine bz_iload_n dX0_toWeights_0 rfl ?_
    refine bz_if_ne (tgt := 14) dX0_toWeights_1 rfl (fun _ => ?_) (fun q => absurd q (by decide))
    refine bz_iload_n dX0_toWeights_14 rfl ?_
    refine bz_iconst dX0_toWeights_15 kc_iconst_1 ?_
    refine bz_icmp_ne (tgt := 43) dX0_toWeights_16 rfl (fun q => absurd (by decide) q) (fun _ => ?_)
    refine bz_aload_n dX0_toWeights_19 rfl ?_
    refine bz_aload_n dX0_toWeights_20 rfl ?_
    refine bz_aload_n dX0_toWeights_21 rfl ?_
    refine bz_getf fl_X0_15 dX0_toWeights_22 rfl rfl (by omega) ?_
    refine bz_cV2U (z := 4) mv_X0_completesToTableaux mi_X0_completesToTableaux lk_X0_41 dX0_toWeights_25 (by exact t_cT (F := N) hx h11 hkx (by omega) hx11 (by exact hT) hN) (by omega) rfl (by omega) rfl rfl rfl (Nat.le_of_ble_eq_true rfl) (Nat.le_of_ble_eq_true rfl) ?_
    refine bz_aload_n dX0_toWeights_28 rfl ?_
    refine bz_aload_n dX0_toWeights_29 rfl ?_
    refine bz_getf fl_X0_15 dX0_toWeights_30 rfl rfl (by omega) ?_
    refine bz_aload_n dX0_toWeights_33 rfl ?_
    refine bz_getf fl_X0_9 dX0_toWeights_34 rfl rfl (by omega) ?_
    refine bz_cV2U (z := 2) mv_X0_conjugate mi_X0_conjugate lk_X0_32 dX0_toWeights_37 (by exact t_cj h11 h10 (by omega) (by omega) (by omega) (by exact hT)) (by omega) rfl (by omega) rfl rfl rfl (Nat.le_of_ble_eq_true rfl) (Nat.le_of_ble_eq_true rfl) ?_
    refine bz_goto (tgt := 89) dX0_toWeights_40 rfl ?_
    refine bz_st (σ2 := bz_setJ (bz_setJ σ 11 (bz_upto (σ.1 11) N 30)) 10 (bz_upto (σ.1 10) (fun j => bz_upto (σ.1 11) N 30 (xt_conj j)) 30)) (by rw [bz_setJ_at, bz_setJ_ne (by omega)]) ?_
    have := t_toW_end (l := l) (ad := ad) (K := K) (S := bz_setJ (bz_setJ σ 11 (bz_upto (σ.1 11) N 30)) 10 (bz_upto (σ.1 10) (fun j => bz_upto (σ.1 11) N 30 (xt_conj j)) 30)) (N := fun j => N (xt_conj j)) (W := W) hy hky hy10 (by exact hT) (fun j hj => by rw [bz_setJ_at, bz_upto_lt hj, bz_upto_lt (xt_conj30 j hj)]) (by exact hW) (x1 := some (.int (nI 1))) (x2 := some (.ref (ad kx)))
    rw [bz_setJ_ne hy10, bz_setJ_ne hy11] at this
    exact this
  | 2, _, hF =>
    obtain ⟨N, hN, hW⟩ := hF
    refine ⟨bz_setJ (bz_setJ σ 10 (bz_upto (σ.1 10) N 30)) ky (bz_upto ((bz_setJ σ 10 (bz_upto (σ.1 10) N 30)).1 ky) W 30), ?_, ⟨rfl, fun j h1 h2 h => by rw [bz_setJ_ne h, bz_setJ_ne h1]⟩, fun j hj => by rw [bz_setJ_at, bz_upto_lt hj]⟩
    refine bz_iload_n dX0_toWeights_0 rfl ?_
    refine bz_if_ne (tgt := 14) dX0_toWeights_1 rfl (fun _ => ?_) (fun q => absurd q (by decide))
    refine bz_iload_n dX0_toWeights_14 rfl ?_
    refine bz_iconst dX0_toWeights_15 kc_iconst_1 ?_
    refine bz_icmp_ne (tgt := 43) dX0_toWeights_16 rfl (fun _ => ?_) (fun q => absurd q (by decide))
    refine bz_iload_n dX0_toWeights_43 rfl ?_
    refine bz_iconst dX0_toWeights_44 kc_iconst_2 ?_
    refine bz_icmp_ne (tgt := 60) dX0_toWeights_45 rfl (fun q => absurd (by decide) q) (fun _ => ?_)
    refine bz_aload_n dX0_toWeights_48 rfl ?_
    refine bz_aload_n dX0_toWeights_49 rfl ?_
    refine bz_aload_n dX0_toWeights_50 rfl ?_
    refine bz_getf fl_X0_9 dX0_toWeights_51 rfl rfl (by omega) ?_
    refine bz_cV2U (z := 4) mv_X0_completesToTableaux mi_X0_completesToTableaux lk_X0_41 dX0_toWeights_54 (by exact t_cT (F := N) hx h10 hkx (by omega) hx10 (by exact hT) hN) (by omega) rfl (by omega) rfl rfl rfl (Nat.le_of_ble_eq_true rfl) (Nat.le_of_ble_eq_true rfl) ?_
    refine bz_goto (tgt := 89) dX0_toWeights_57 rfl ?_
    exact t_toW_end hy hky hy10 (by exact hT) (fun j hj => by rw [bz_setJ_at, bz_upto_lt hj]) (by exact hW)
  | 3, _, hF =>
    obtain ⟨N, hN, hW⟩ := hF
    refine ⟨bz_setJ (bz_setJ σ 10 (bz_upto (σ.1 10) N 30)) ky (bz_upto ((bz_setJ σ 10 (bz_upto (σ.1 10) N 30)).1 ky) W 30), ?_, ⟨rfl, fun j h1 h2 h => by rw [bz_setJ_ne h, bz_setJ_ne h1]⟩, fun j hj => by rw [bz_setJ_at, bz_upto_lt hj]⟩
    refine bz_iload_n dX0_toWeights_0 rfl ?_
    refine bz_if_ne (tgt := 14) dX0_toWeights_1 rfl (fun _ => ?_) (fun q => absurd q (by decide))
    refine bz_iload_n dX0_toWeights_14 rfl ?_
    refine bz_iconst dX0_toWeights_15 kc_iconst_1 ?_
    refine bz_icmp_ne (tgt := 43) dX0_toWeights_16 rfl (fun _ => ?_) (fun q => absurd q (by decide))
    refine bz_iload_n dX0_toWeights_43 rfl ?_
    refine bz_iconst dX0_toWeights_44 kc_iconst_2 ?_
    refine bz_icmp_ne (tgt := 60) dX0_toWeights_45 rfl (fun _ => ?_) (fun q => absurd q (by decide))
    refine bz_iload_n dX0_toWeights_60 rfl ?_
    refine bz_iconst dX0_toWeights_61 kc_iconst_3 ?_
    refine bz_icmp_ne (tgt := 77) dX0_toWeights_62 rfl (fun q => absurd (by decide) q) (fun _ => ?_)
    refine bz_aload_n dX0_toWeights_65 rfl ?_
    refine bz_aload_n dX0_toWeights_66 rfl ?_
    refine bz_aload_n dX0_toWeights_67 rfl ?_
    refine bz_getf fl_X0_9 dX0_toWeights_68 rfl rfl (by omega) ?_
    refine bz_cV2U (z := 4) mv_X0_powersToTableaux mi_X0_powersToTableaux lk_X0_44 dX0_toWeights_71 (by exact t_pT (F := N) hx h10 hkx (by omega) hx10 (by exact hT) hN) (by omega) rfl (by omega) rfl rfl rfl (Nat.le_of_ble_eq_true rfl) (Nat.le_of_ble_eq_true rfl) ?_
    refine bz_goto (tgt := 89) dX0_toWeights_74 rfl ?_
    exact t_toW_end hy hky hy10 (by exact hT) (fun j hj => by rw [bz_setJ_at, bz_upto_lt hj]) (by exact hW)
  | 4, _, hF =>
    refine ⟨bz_setJ (bz_setJ σ 10 (fun j => if j < 30 then σ.1 kx j else σ.1 10 j)) ky (bz_upto ((bz_setJ σ 10 (fun j => if j < 30 then σ.1 kx j else σ.1 10 j)).1 ky) W 30), ?_, ⟨rfl, fun j h1 h2 h => by rw [bz_setJ_ne h, bz_setJ_ne h1]⟩, fun j hj => by rw [bz_setJ_at, bz_upto_lt hj]⟩
    refine bz_iload_n dX0_toWeights_0 rfl ?_
    refine bz_if_ne (tgt := 14) dX0_toWeights_1 rfl (fun _ => ?_) (fun q => absurd q (by decide))
    refine bz_iload_n dX0_toWeights_14 rfl ?_
    refine bz_iconst dX0_toWeights_15 kc_iconst_1 ?_
    refine bz_icmp_ne (tgt := 43) dX0_toWeights_16 rfl (fun _ => ?_) (fun q => absurd q (by decide))
    refine bz_iload_n dX0_toWeights_43 rfl ?_
    refine bz_iconst dX0_toWeights_44 kc_iconst_2 ?_
    refine bz_icmp_ne (tgt := 60) dX0_toWeights_45 rfl (fun _ => ?_) (fun q => absurd q (by decide))
    refine bz_iload_n dX0_toWeights_60 rfl ?_
    refine bz_iconst dX0_toWeights_61 kc_iconst_3 ?_
    refine bz_icmp_ne (tgt := 77) dX0_toWeights_62 rfl (fun _ => ?_) (fun q => absurd q (by decide))
    refine bz_aload_n dX0_toWeights_77 rfl ?_
    refine bz_iconst dX0_toWeights_78 kc_iconst_0 ?_
    refine bz_aload_n dX0_toWeights_79 rfl ?_
    refine bz_getf fl_X0_9 dX0_toWeights_80 rfl rfl (by omega) ?_
    refine bz_iconst dX0_toWeights_83 kc_iconst_0 ?_
    refine bz_bipush dX0_toWeights_84 kc_bipush_30 ?_
    refine bz_copy lk_X0_22 wac_n wac_s wi_java_lang_System (by omega) dX0_toWeights_86 hx h10 (by omega) (by omega) (Nat.le_of_ble_eq_true rfl) ?_
    exact t_toW_end (N := σ.1 kx) hy hky hy10 (by exact hT) (fun j hj => by rw [bz_setJ_at]; simp [hj]) (by exact hF)
  | n + 5, hb, _ => exact absurd hb (by omega)
end BC
end
section
/-! marks and numbers -/
def xt_mk (p : Nat) : Nat := if 1 ≤ p ∧ p ≤ 6 then 8 ^ (p - 1) else 0
def xt_find (mk : Nat) : Nat → Nat → Option Nat
  | _, 0 => none
  | a, m + 1 => if xt_mark a = mk then some a else xt_find mk (a + 1) m
def xt_num (mk d : Nat) : Option Nat := if d ≤ 6 then xt_find mk (xp_start d) (xp_start (d + 1) - xp_start d) else none
def xt_o (o : Option Nat) : Int32 := match o with
  | some a => nI a
  | none => -1
theorem xp_start_le : ∀ d, d ≤ 6 → xp_start d ≤ xp_start (d + 1) ∧ xp_start (d + 1) ≤ 30 := by decide +kernel
theorem xt_mark_lt : ∀ i, i < 30 → xt_mark i < 2 ^ 31 := by decide +kernel
theorem xt_shl : ∀ p, p < 7 → 1 ≤ p → nI 1 <<< ((nI 3 * (nI p - nI 1)) &&& 31) = nI (8 ^ (p - 1)) := by decide +kernel
section XP3
variable {l : Launch} {ad : Nat → Nat} {K : bz_K} {n : Nat} {σ : bz_S}
theorem t_markOf {p : Nat} (hp : p < 2 ^ 31) : bz_V l ad K n mX1_markOf 0 (some (.int (nI (xt_mk p)))) σ 0 [some (.int (nI p))] [] σ := by
  refine bz_iload_n dX1_markOf_0 rfl ?_
  refine bz_if_le (tgt := 20) dX1_markOf_1 rfl (fun h1 => ?_) (fun h1 => ?_)
  · refine bz_iconst dX1_markOf_20 kc_iconst_0 ?_
    refine bz_iret dX1_markOf_21 rfl ?_ ?_
    · have : p = 0 := by
        rcases Nat.eq_zero_or_pos p with q | q
        · exact q
        · exact absurd h1 (nI_nle q hp)
      subst this
      rfl
    · rfl
  · have h0 : 1 ≤ p := by
      rcases Nat.eq_zero_or_pos p with q | q
      · subst q; exact absurd (by decide) h1
      · exact q
    refine bz_iload_n dX1_markOf_4 rfl ?_
    refine bz_bipush dX1_markOf_5 kc_bipush_6 ?_
    refine bz_icmp_gtN (tgt := 20) dX1_markOf_7 rfl (by omega) (by omega) (fun h2 => ?_) (fun h2 => ?_)
    · refine bz_iconst dX1_markOf_20 kc_iconst_0 ?_
      refine bz_iret dX1_markOf_21 rfl ?_ ?_
      · simp [xt_mk, Nat.not_le.mpr h2]
      · rfl
    · refine bz_iconst dX1_markOf_10 kc_iconst_1 ?_
      refine bz_iconst dX1_markOf_11 kc_iconst_3 ?_
      refine bz_iload_n dX1_markOf_12 rfl ?_
      refine bz_iconst dX1_markOf_13 kc_iconst_1 ?_
      refine bz_isub dX1_markOf_14 ?_
      refine bz_imul dX1_markOf_15 ?_
      refine bz_ishl dX1_markOf_16 ?_
      refine bz_goto (tgt := 21) dX1_markOf_17 rfl ?_
      refine bz_iret dX1_markOf_21 rfl ?_ ?_
      · rw [xt_shl p (by omega) h0]
        simp [xt_mk, h0, h2]
      · rfl
theorem t_num_loop (hn : 9 ≤ n) {mk d e : Nat} (hmk : mk < 2 ^ 31) (he : e ≤ 30) (hm : ∀ i, i < 30 → σ.2.1 3 i = nI (xt_mark i)) {x2 : Option Value} :
    ∀ (m a : Nat), a + m = e → bz_V l ad K n mX1_numberOf 1 (some (.int (xt_o (xt_find mk a m)))) σ 11 [some (.ref (ad 0)), some (.int (nI mk)), x2, some (.int (nI e)), some (.int (nI a))] [] σ := by
  intro m
  induction m with
  | zero =>
    intro a ha
    obtain rfl : a = e := by omega
    refine bz_iload dX1_numberOf_11 rfl ?_
    refine bz_iload_n dX1_numberOf_13 rfl ?_
    refine bz_icmp_geN (tgt := 37) dX1_numberOf_14 rfl (by omega) (by omega) (fun _ => ?_) (fun q => absurd q (by omega))
    refine bz_iconst dX1_numberOf_37 kc_iconst_m1 ?_
    refine bz_iret dX1_numberOf_38 rfl rfl rfl
  | succ m ih =>
    intro a ha
    have h30 : a < 30 := by omega
    have hlt := xt_mark_lt a h30
    refine bz_iload dX1_numberOf_11 rfl ?_
    refine bz_iload_n dX1_numberOf_13 rfl ?_
    refine bz_icmp_geN (tgt := 37) dX1_numberOf_14 rfl (by omega) (by omega) (fun q => absurd q (by omega)) (fun _ => ?_)
    refine bz_aload_n dX1_numberOf_17 rfl ?_
    refine bz_getf fl_X1_18 dX1_numberOf_18 rfl rfl (by omega) ?_
    refine bz_iload dX1_numberOf_21 rfl ?_
    refine bz_iaload dX1_numberOf_23 rfl (by omega) (by omega) ?_
    refine bz_topi (hm a h30) ?_
    refine bz_iload_n dX1_numberOf_24 rfl ?_
    refine bz_icmp_neN (tgt := 31) dX1_numberOf_25 rfl (by omega) (by omega) (fun h => ?_) (fun h => ?_)
    · first | refine bz_iinc4N dX1_numberOf_31 (by decide) rfl ?_ | refine bz_iinc4 dX1_numberOf_31 rfl (by decide) rfl ?_
      refine bz_goto (tgt := 11) dX1_numberOf_34 rfl ?_
      have := ih (a + 1) (by omega)
      rw [xt_find, if_neg h]
      exact this
    · refine bz_iload dX1_numberOf_28 rfl ?_
      refine bz_iret dX1_numberOf_30 rfl ?_ ?_
      · rw [xt_find, if_pos h]
        rfl
      · rfl
theorem t_numberOf (hn : 9 ≤ n) {mk d : Nat} (hmk : mk < 2 ^ 31) (hd : d < 2 ^ 31) (hm : ∀ i, i < 30 → σ.2.1 3 i = nI (xt_mark i)) : bz_V l ad K n mX1_numberOf 1 (some (.int (xt_o (xt_num mk d)))) σ 0 [some (.ref (ad 0)), some (.int (nI mk)), some (.int (nI d)), none, none] [] σ := by
  by_cases h : d ≤ 6
  · have hs := xp_start_le d h
    refine bz_iload_n dX1_numberOf_0 rfl ?_
    refine bz_cS1I (z := 0) mv_X1_endOf ws_X1_endOf lk_X1_64 dX1_numberOf_1 (by exact t_endOf h) (by omega) rfl (Nat.le_of_ble_eq_true rfl) (Nat.le_of_ble_eq_true rfl) ?_
    refine bz_ist3 dX1_numberOf_4 (by decide) rfl ?_
    refine bz_iload_n dX1_numberOf_5 rfl ?_
    refine bz_cS1I (z := 0) mv_X1_startOf ws_X1_startOf lk_X1_67 dX1_numberOf_6 (by exact t_startOf h) (by omega) rfl (Nat.le_of_ble_eq_true rfl) (Nat.le_of_ble_eq_true rfl) ?_
    refine bz_ist4 dX1_numberOf_9 (by decide) rfl ?_
    have := t_num_loop (l := l) (ad := ad) (K := K) (d := d) (σ := σ) hn hmk hs.2 hm (x2 := some (.int (nI d))) (xp_start (d + 1) - xp_start d) (xp_start d) (by omega)
    rw [xt_num, if_pos h]
    exact this
  · have hg : nI d < 0 ∨ nI 6 < nI d := Or.inr ((nI_ltI (by omega) hd).mpr (by omega))
    refine bz_iload_n dX1_numberOf_0 rfl ?_
    refine bz_cS1I (z := 0) mv_X1_endOf ws_X1_endOf lk_X1_64 dX1_numberOf_1 (by exact t_endOfF hg) (by omega) rfl (Nat.le_of_ble_eq_true rfl) (Nat.le_of_ble_eq_true rfl) ?_
    refine bz_ist3 dX1_numberOf_4 (by decide) rfl ?_
    refine bz_iload_n dX1_numberOf_5 rfl ?_
    refine bz_cS1I (z := 0) mv_X1_startOf ws_X1_startOf lk_X1_67 dX1_numberOf_6 (by exact t_startOfF hg) (by omega) rfl (Nat.le_of_ble_eq_true rfl) (Nat.le_of_ble_eq_true rfl) ?_
    refine bz_ist4 dX1_numberOf_9 (by decide) rfl ?_
    have := t_num_loop (l := l) (ad := ad) (K := K) (d := d) (σ := σ) hn hmk (e := 0) (by omega) hm (x2 := some (.int (nI d))) 0 0 rfl
    rw [xt_num, if_neg h]
    exact this
end XP3
end
section
/-! Work: products, divisions, scalars -/
theorem zsum_succ (f : Nat → Int64) : ∀ (m a : Nat), zsum f a (m + 1) = zsum f a m + f (a + m)
  | 0, a => by simp [zsum]
  | m + 1, a => by
    rw [zsum, zsum_succ f m (a + 1), zsum, Int64.add_assoc]
    rw [show a + 1 + m = a + (m + 1) by omega]
theorem zsum_0 {f : Nat → Int64} : ∀ (m a : Nat), (∀ i, a ≤ i → i < a + m → f i = 0) → zsum f a m = 0
  | 0, _, _ => rfl
  | m + 1, a, h => by rw [zsum, h a (Nat.le_refl a) (by omega), zsum_0 m (a + 1) (fun i h1 h2 => h i (by omega) (by omega)), Int64.add_zero]
theorem zsum_ext {f : Nat → Int64} {a e : Nat} : ∀ (m : Nat), (∀ i, a + e ≤ i → i < a + e + m → f i = 0) → zsum f a (e + m) = zsum f a e
  | 0, _ => rfl
  | m + 1, h => by rw [← Nat.add_assoc, zsum_succ, zsum_ext m (fun i h1 h2 => h i h1 (by omega)), h (a + (e + m)) (by omega) (by omega), Int64.add_zero]
def xt_jn (a b : Nat) : Nat := (xt_join (a * 30 + b)).toNat
theorem xt_jn_ok : ∀ a, a < 30 → ∀ b, b < 30 → b < xp_start (6 - xt_deg a + 1) → Int32.ofInt (xt_join (a * 30 + b)) = nI (xt_jn a b) ∧ xt_join (a * 30 + b) = (xt_jn a b : Int) ∧ xt_jn a b < 30 := by decide +kernel
theorem xt_jn_no : ∀ a, a < 30 → ∀ b, b < 30 → xp_start (6 - xt_deg a + 1) ≤ b → xt_join (a * 30 + b) = -1 := by decide +kernel
/-- number times other[b], where a and b joined are j -/
def wk_t (num : Int64) (x : Nat → Int64) (a j : Nat) : Nat → Int64 := fun b => if xt_join (a * 30 + b) = (j : Int) then num * x b else 0
def wk_aj (f : Nat → Int64) (num : Int64) (x : Nat → Int64) (a b : Nat) : Nat → Int64 := fun j => f j + zsum (wk_t num x a j) 0 b
theorem wk_aj_0 (f : Nat → Int64) (num : Int64) (x : Nat → Int64) (a : Nat) : wk_aj f num x a 0 = f := by
  funext j
  simp [wk_aj, zsum]
theorem wk_aj_s {f : Nat → Int64} {num : Int64} {x : Nat → Int64} {a b J : Nat} (h : xt_join (a * 30 + b) = (J : Int)) : vp_updL (wk_aj f num x a b) J (wk_aj f num x a b J + num * x b) = wk_aj f num x a (b + 1) := by
  funext j
  unfold vp_updL
  by_cases e : j = J
  · subst e
    rw [if_pos rfl]
    unfold wk_aj
    rw [zsum_succ, Int64.add_assoc, Nat.zero_add]
    unfold wk_t
    rw [if_pos h]
  · rw [if_neg e]
    unfold wk_aj
    rw [zsum_succ, Nat.zero_add]
    have : wk_t num x a j b = 0 := by
      unfold wk_t
      rw [if_neg]
      rw [h]
      omega
    rw [this, Int64.add_zero]
theorem wk_aj_30 {f : Nat → Int64} {num : Int64} {x : Nat → Int64} {a : Nat} (ha : a < 30) : wk_aj f num x a (xp_start (6 - xt_deg a + 1)) = wk_aj f num x a 30 := by
  funext j
  unfold wk_aj
  have hle := (xp_start_le (6 - xt_deg a) (by omega)).2
  have e : zsum (wk_t num x a j) 0 (xp_start (6 - xt_deg a + 1) + (30 - xp_start (6 - xt_deg a + 1))) = zsum (wk_t num x a j) 0 (xp_start (6 - xt_deg a + 1)) := zsum_ext _ (fun i h1 h2 => by
    unfold wk_t
    rw [if_neg]
    rw [xt_jn_no a ha i (by omega) (by omega)]
    omega)
  rw [show xp_start (6 - xt_deg a + 1) + (30 - xp_start (6 - xt_deg a + 1)) = 30 by omega] at e
  rw [e]
/-- the product, 720 times too great -/
def wk_m (f x y : Nat → Int64) (a : Nat) : Nat → Int64 := fun j => f j + zsum (fun a => zsum (wk_t (x a) y a j) 0 30) 0 a
theorem wk_m_0 (f x y : Nat → Int64) : wk_m f x y 0 = f := by
  funext j
  simp [wk_m, zsum]
theorem wk_m_s (f x y : Nat → Int64) (a : Nat) : wk_aj (wk_m f x y a) (x a) y a 30 = wk_m f x y (a + 1) := by
  funext j
  unfold wk_aj wk_m
  rw [zsum_succ (fun a => zsum (wk_t (x a) y a j) 0 30) a 0, Int64.add_assoc, Nat.zero_add]
theorem wk_m_skip {f x y : Nat → Int64} {a : Nat} (h : x a = 0) : wk_m f x y a = wk_m f x y (a + 1) := by
  funext j
  unfold wk_m
  rw [zsum_succ (fun a => zsum (wk_t (x a) y a j) 0 30) a 0, Nat.zero_add, zsum_0 30 0 (fun i _ _ => by unfold wk_t; rw [h]; simp), Int64.add_zero]
theorem bz_cmp0 {x y : Int64} : lg_cmp x y = 0 ↔ x = y := by
  unfold lg_cmp
  by_cases h1 : x > y
  · rw [if_pos h1]
    constructor
    · intro h; exact absurd h (by decide)
    · intro h; subst h; exact absurd h1 (Int64.lt_irrefl)
  · rw [if_neg h1]
    by_cases h2 : x = y
    · simp [h2]
    · rw [if_neg h2]
      constructor
      · intro h; exact absurd h (by decide)
      · intro h; exact absurd h h2
section WK
variable {l : Launch} {ad : Nat → Nat} {K : bz_K} {σ σ' : bz_S} {k1 k2 k3 : Nat} {r : Option Value}
theorem t_scal_loop (h1 : bz_sh k1 = (1, 30, 0, [])) (h2 : bz_sh k2 = (1, 30, 0, [])) (hk1 : k1 < 73) (hk2 : k2 < 73) {T : Int64} :
    ∀ (m a : Nat) (acc : Int64), a + m = 30 → acc + zsum (fun a => σ.1 k1 a * σ.1 k2 a) a m = T → bz_V l ad K 73 mX2_scalarOf 0 (some (.long T)) σ 5 [some (.ref (ad k1)), some (.ref (ad k2)), some (.long acc), none, some (.int (nI a))] [] σ := by
  intro m
  induction m with
  | zero =>
    intro a acc ha hs
    obtain rfl : a = 30 := by omega
    obtain rfl := zsum_end hs
    refine bz_iload dX2_scalarOf_5 rfl ?_
    refine bz_bipush dX2_scalarOf_7 kc_bipush_30 ?_
    refine bz_icmp_geN (tgt := 30) dX2_scalarOf_9 rfl (by omega) (by omega) (fun _ => ?_) (fun q => absurd q (by omega))
    refine bz_lload_n dX2_scalarOf_30 rfl ?_
    refine bz_lret dX2_scalarOf_31 rfl rfl rfl
  | succ m ih =>
    intro a acc ha hs
    refine bz_iload dX2_scalarOf_5 rfl ?_
    refine bz_bipush dX2_scalarOf_7 kc_bipush_30 ?_
    refine bz_icmp_geN (tgt := 30) dX2_scalarOf_9 rfl (by omega) (by omega) (fun q => absurd q (by omega)) (fun _ => ?_)
    refine bz_lload_n dX2_scalarOf_12 rfl ?_
    refine bz_aload_n dX2_scalarOf_13 rfl ?_
    refine bz_iload dX2_scalarOf_14 rfl ?_
    refine bz_laload dX2_scalarOf_16 h1 (by omega) (by omega) ?_
    refine bz_aload_n dX2_scalarOf_17 rfl ?_
    refine bz_iload dX2_scalarOf_18 rfl ?_
    refine bz_laload dX2_scalarOf_20 h2 (by omega) (by omega) ?_
    refine bz_lmul dX2_scalarOf_21 ?_
    refine bz_ladd dX2_scalarOf_22 ?_
    refine bz_lst2 dX2_scalarOf_23 (by decide) rfl ?_
    first | refine bz_iinc4N dX2_scalarOf_24 (by decide) rfl ?_ | refine bz_iinc4 dX2_scalarOf_24 rfl (by decide) rfl ?_
    refine bz_goto (tgt := 5) dX2_scalarOf_27 rfl ?_
    have hs2 := zsum_step hs
    exact ih (a + 1) _ (by omega) hs2
theorem t_scalarOf (h1 : bz_sh k1 = (1, 30, 0, [])) (h2 : bz_sh k2 = (1, 30, 0, [])) (hk1 : k1 < 73) (hk2 : k2 < 73) : bz_V l ad K 73 mX2_scalarOf 0 (some (.long (zsum (fun a => σ.1 k1 a * σ.1 k2 a) 0 30))) σ 0 [some (.ref (ad k1)), some (.ref (ad k2)), none, none, none] [] σ := by
  refine bz_lconst dX2_scalarOf_0 kc_lconst_0 ?_
  refine bz_lst2 dX2_scalarOf_1 (by decide) rfl ?_
  refine bz_iconst dX2_scalarOf_2 kc_iconst_0 ?_
  refine bz_ist4 dX2_scalarOf_3 (by decide) rfl ?_
  exact t_scal_loop h1 h2 hk1 hk2 30 0 0 rfl (Int64.zero_add _)
theorem t_div_loop (h1 : bz_sh k1 = (1, 30, 0, [])) (hk1 : k1 < 73) :
    ∀ (m a : Nat), a + m = 30 → bz_V l ad K 73 mX2_divideByCommon 0 none (bz_setJ σ k1 (bz_upto (σ.1 k1) (fun j => σ.1 k1 j / 720) 30)) 2 [some (.ref (ad k1)), some (.int (nI a))] [] (bz_setJ σ k1 (bz_upto (σ.1 k1) (fun j => σ.1 k1 j / 720) a)) := by
  intro m
  induction m with
  | zero =>
    intro a ha
    obtain rfl : a = 30 := by omega
    refine bz_iload_n dX2_divideByCommon_2 rfl ?_
    refine bz_bipush dX2_divideByCommon_3 kc_bipush_30 ?_
    refine bz_icmp_geN (tgt := 23) dX2_divideByCommon_5 rfl (by omega) (by omega) (fun _ => ?_) (fun q => absurd q (by omega))
    refine bz_vret dX2_divideByCommon_23 rfl rfl
  | succ m ih =>
    intro a ha
    refine bz_iload_n dX2_divideByCommon_2 rfl ?_
    refine bz_bipush dX2_divideByCommon_3 kc_bipush_30 ?_
    refine bz_icmp_geN (tgt := 23) dX2_divideByCommon_5 rfl (by omega) (by omega) (fun q => absurd q (by omega)) (fun _ => ?_)
    refine bz_aload_n dX2_divideByCommon_8 rfl ?_
    refine bz_iload_n dX2_divideByCommon_9 rfl ?_
    refine bz_dup2 dX2_divideByCommon_10 rfl rfl ?_
    refine bz_laload dX2_divideByCommon_11 h1 (by omega) (by omega) ?_
    refine bz_topl (y := σ.1 k1 a) (by rw [bz_setJ_at, bz_upto_ge (Nat.le_refl a)]) ?_
    refine bz_ldc2 kl_X2_59 dX2_divideByCommon_12 ?_
    refine bz_ldiv dX2_divideByCommon_15 (by decide) ?_
    refine bz_lastore dX2_divideByCommon_16 h1 (by omega) (by omega) ?_
    first | refine bz_iinc1N dX2_divideByCommon_17 (by decide) rfl ?_ | refine bz_iinc1 dX2_divideByCommon_17 rfl (by decide) rfl ?_
    refine bz_goto (tgt := 2) dX2_divideByCommon_20 rfl ?_
    refine bz_st (by rw [bz_upJ_set, bz_upto_s rfl]) ?_
    exact ih (a + 1) (by omega)
theorem t_div (h1 : bz_sh k1 = (1, 30, 0, [])) (hk1 : k1 < 73) : bz_V l ad K 73 mX2_divideByCommon 0 none (bz_setJ σ k1 (bz_upto (σ.1 k1) (fun j => σ.1 k1 j / 720) 30)) 0 [some (.ref (ad k1)), none] [] σ := by
  refine bz_iconst dX2_divideByCommon_0 kc_iconst_0 ?_
  refine bz_ist1 dX2_divideByCommon_1 (by decide) rfl ?_
  refine bz_st (by rw [bz_setJ_id (bz_upto_0 _ (fun j => σ.1 k1 j / 720))]) (t_div_loop h1 hk1 30 0 rfl)
theorem t_aj_loop {a : Nat} {num : Int64} (ha : a < 30) (h1 : bz_sh k1 = (1, 30, 0, [])) (h2 : bz_sh k2 = (1, 30, 0, [])) (hk1 : k1 < 73) (hk2 : k2 < 73) (hne : k1 ≠ k2) (hT : pz_T σ.2.1) :
    ∀ (m b : Nat) (x8 : Option Value), b + m = xp_start (6 - xt_deg a + 1) → bz_V l ad K 73 mX2_addJoined 2 none (bz_setJ σ k2 (wk_aj (σ.1 k2) num (σ.1 k1) a 30)) 20 [some (.ref (ad 12)), some (.int (nI a)), some (.long num), none, some (.ref (ad k1)), some (.ref (ad k2)), some (.int (nI (xp_start (6 - xt_deg a + 1)))), some (.int (nI b)), x8] [] (bz_setJ σ k2 (wk_aj (σ.1 k2) num (σ.1 k1) a b)) := by
  have hle := (xp_start_le (6 - xt_deg a) (by omega)).2
  intro m
  induction m with
  | zero =>
    intro b x8 hb
    obtain rfl : b = xp_start (6 - xt_deg a + 1) := by omega
    refine bz_iload dX2_addJoined_20 rfl ?_
    refine bz_iload dX2_addJoined_22 rfl ?_
    refine bz_icmp_geN (tgt := 68) dX2_addJoined_24 rfl (by omega) (by omega) (fun _ => ?_) (fun q => absurd q (by omega))
    refine bz_vret dX2_addJoined_68 rfl (by rw [wk_aj_30 ha])
  | succ m ih =>
    intro b x8 hb
    have hj := xt_jn_ok a ha b (by omega) (by omega)
    have hjl := hj.2.2
    refine bz_iload dX2_addJoined_20 rfl ?_
    refine bz_iload dX2_addJoined_22 rfl ?_
    refine bz_icmp_geN (tgt := 68) dX2_addJoined_24 rfl (by omega) (by omega) (fun q => absurd q (by omega)) (fun _ => ?_)
    refine bz_aload_n dX2_addJoined_27 rfl ?_
    refine bz_getf fl_X2_23 dX2_addJoined_28 rfl rfl (by omega) ?_
    refine bz_iload_n dX2_addJoined_31 rfl ?_
    refine bz_iload dX2_addJoined_32 rfl ?_
    refine bz_cVN2I (z := 0) mv_X1_joined mi_X1_joined lk_X2_51 dX2_addJoined_34 (by exact t_joined (by omega) ha (by omega)) (by omega) rfl (by omega) rfl rfl rfl (Nat.le_of_ble_eq_true rfl) (Nat.le_of_ble_eq_true rfl) ?_
    refine bz_topi (y := nI (xt_jn a b)) ((hT.2.2.2.2.2.1 (a * 30 + b) (by omega)).trans hj.1) ?_
    refine bz_ist8 dX2_addJoined_37 (by decide) rfl ?_
    refine bz_iload dX2_addJoined_39 rfl ?_
    refine bz_cSN1I (z := 0) mv_X3_isPartition ws_X3_isPartition lk_X2_55 dX2_addJoined_41 (by exact t_isPart hjl) (by omega) rfl (Nat.le_of_ble_eq_true rfl) (Nat.le_of_ble_eq_true rfl) ?_
    refine bz_if_eq (tgt := 62) dX2_addJoined_44 rfl (fun q => absurd q (by decide)) (fun _ => ?_)
    refine bz_aload dX2_addJoined_47 rfl ?_
    refine bz_iload dX2_addJoined_49 rfl ?_
    refine bz_dup2 dX2_addJoined_51 rfl rfl ?_
    refine bz_laload dX2_addJoined_52 h2 (by omega) hjl ?_
    refine bz_topl (y := wk_aj (σ.1 k2) num (σ.1 k1) a b (xt_jn a b)) (by rw [bz_setJ_at]) ?_
    refine bz_lload_n dX2_addJoined_53 rfl ?_
    refine bz_aload dX2_addJoined_54 rfl ?_
    refine bz_iload dX2_addJoined_56 rfl ?_
    refine bz_laload dX2_addJoined_58 h1 (by omega) (by omega) ?_
    refine bz_topl (y := σ.1 k1 b) (by rw [bz_setJ_ne hne]) ?_
    refine bz_lmul dX2_addJoined_59 ?_
    refine bz_ladd dX2_addJoined_60 ?_
    refine bz_lastore dX2_addJoined_61 h2 (by omega) hjl ?_
    first | refine bz_iinc7N dX2_addJoined_62 (by decide) rfl ?_ | refine bz_iinc7 dX2_addJoined_62 rfl (by decide) rfl ?_
    refine bz_goto (tgt := 20) dX2_addJoined_65 rfl ?_
    refine bz_st (by rw [bz_upJ_set, wk_aj_s hj.2.1]) ?_
    exact ih (b + 1) _ (by omega)
theorem t_addJoined {a : Nat} {num : Int64} (ha : a < 30) (h1 : bz_sh k1 = (1, 30, 0, [])) (h2 : bz_sh k2 = (1, 30, 0, [])) (hk1 : k1 < 73) (hk2 : k2 < 73) (hne : k1 ≠ k2) (hT : pz_T σ.2.1) : bz_V l ad K 73 mX2_addJoined 2 none (bz_setJ σ k2 (wk_aj (σ.1 k2) num (σ.1 k1) a 30)) 0 [some (.ref (ad 12)), some (.int (nI a)), some (.long num), none, some (.ref (ad k1)), some (.ref (ad k2)), none, none, none] [] σ := by
  have hd6 := xt_deg6 a ha
  refine bz_bipush dX2_addJoined_0 kc_bipush_6 ?_
  refine bz_aload_n dX2_addJoined_2 rfl ?_
  refine bz_getf fl_X2_23 dX2_addJoined_3 rfl rfl (by omega) ?_
  refine bz_getf fl_X2_41 dX2_addJoined_6 rfl rfl (by omega) ?_
  refine bz_iload_n dX2_addJoined_9 rfl ?_
  refine bz_iaload dX2_addJoined_10 rfl (by omega) (by omega) ?_
  refine bz_topi (hT.1 a ha) ?_
  refine bz_isubN dX2_addJoined_11 hd6 ?_
  refine bz_cSN1I (z := 0) mv_X1_endOf ws_X1_endOf lk_X2_47 dX2_addJoined_12 (by exact t_endOf (by omega)) (by omega) rfl (Nat.le_of_ble_eq_true rfl) (Nat.le_of_ble_eq_true rfl) ?_
  refine bz_ist6 dX2_addJoined_15 (by decide) rfl ?_
  refine bz_iconst dX2_addJoined_17 kc_iconst_0 ?_
  refine bz_ist7 dX2_addJoined_18 (by decide) rfl ?_
  refine bz_st (by rw [bz_setJ_id (wk_aj_0 _ num (σ.1 k1) a)]) (t_aj_loop ha h1 h2 hk1 hk2 hne hT (xp_start (6 - xt_deg a + 1)) 0 none (Nat.zero_add _))
theorem t_mul_loop {g : Nat → Int64} (h1 : bz_sh k1 = (1, 30, 0, [])) (h2 : bz_sh k2 = (1, 30, 0, [])) (h3 : bz_sh k3 = (1, 30, 0, [])) (hk1 : k1 < 73) (hk2 : k2 < 73) (hk3 : k3 < 73) (hn1 : k1 ≠ k3) (hn2 : k2 ≠ k3) (hT : pz_T σ.2.1) :
    ∀ (m a : Nat), a + m = 30 → bz_V l ad K 73 mX2_multiply 3 none (bz_setJ σ k3 (bz_upto (wk_m g (σ.1 k1) (σ.1 k2) 30) (fun j => wk_m g (σ.1 k1) (σ.1 k2) 30 j / 720) 30)) 8 [some (.ref (ad 12)), some (.ref (ad k1)), some (.ref (ad k2)), some (.ref (ad k3)), some (.int (nI a))] [] (bz_setJ σ k3 (wk_m g (σ.1 k1) (σ.1 k2) a)) := by
  intro m
  induction m with
  | zero =>
    intro a ha
    obtain rfl : a = 30 := by omega
    refine bz_iload dX2_multiply_8 rfl ?_
    refine bz_bipush dX2_multiply_10 kc_bipush_30 ?_
    refine bz_icmp_geN (tgt := 42) dX2_multiply_12 rfl (by omega) (by omega) (fun _ => ?_) (fun q => absurd q (by omega))
    refine bz_aload_n dX2_multiply_42 rfl ?_
    refine bz_cS1U (z := 1) mv_X2_divideByCommon ws_X2_divideByCommon lk_X2_37 dX2_multiply_43 (by exact t_div h3 hk3) (by omega) rfl (Nat.le_of_ble_eq_true rfl) (Nat.le_of_ble_eq_true rfl) ?_
    refine bz_vret dX2_multiply_46 rfl ?_
    rw [bz_setJ_at, bz_setJ_J]
  | succ m ih =>
    intro a ha
    refine bz_iload dX2_multiply_8 rfl ?_
    refine bz_bipush dX2_multiply_10 kc_bipush_30 ?_
    refine bz_icmp_geN (tgt := 42) dX2_multiply_12 rfl (by omega) (by omega) (fun q => absurd q (by omega)) (fun _ => ?_)
    refine bz_aload_n dX2_multiply_15 rfl ?_
    refine bz_iload dX2_multiply_16 rfl ?_
    refine bz_laload dX2_multiply_18 h1 (by omega) (by omega) ?_
    refine bz_topl (y := σ.1 k1 a) (by rw [bz_setJ_ne hn1]) ?_
    refine bz_lconst dX2_multiply_19 kc_lconst_0 ?_
    refine bz_lcmp dX2_multiply_20 ?_
    refine bz_if_eq (tgt := 36) dX2_multiply_21 rfl (fun h => ?_) (fun h => ?_)
    · first | refine bz_iinc4N dX2_multiply_36 (by decide) rfl ?_ | refine bz_iinc4 dX2_multiply_36 rfl (by decide) rfl ?_
      refine bz_goto (tgt := 8) dX2_multiply_39 rfl ?_
      refine bz_st (by rw [wk_m_skip (bz_cmp0.mp h)]) ?_
      exact ih (a + 1) (by omega)
    · refine bz_aload_n dX2_multiply_24 rfl ?_
      refine bz_iload dX2_multiply_25 rfl ?_
      refine bz_aload_n dX2_multiply_27 rfl ?_
      refine bz_iload dX2_multiply_28 rfl ?_
      refine bz_laload dX2_multiply_30 h1 (by omega) (by omega) ?_
      refine bz_topl (y := σ.1 k1 a) (by rw [bz_setJ_ne hn1]) ?_
      refine bz_aload_n dX2_multiply_31 rfl ?_
      refine bz_aload_n dX2_multiply_32 rfl ?_
      refine bz_cV4U (z := 3) mv_X2_addJoined mi_X2_addJoined lk_X2_33 dX2_multiply_33 (by exact t_addJoined (by omega) h2 h3 hk2 hk3 hn2 (by exact hT)) (by omega) rfl (by omega) rfl rfl rfl (Nat.le_of_ble_eq_true rfl) (Nat.le_of_ble_eq_true rfl) ?_
      first | refine bz_iinc4N dX2_multiply_36 (by decide) rfl ?_ | refine bz_iinc4 dX2_multiply_36 rfl (by decide) rfl ?_
      refine bz_goto (tgt := 8) dX2_multiply_39 rfl ?_
      refine bz_st (by rw [bz_setJ_at, bz_setJ_J, bz_setJ_ne hn2, wk_m_s]) ?_
      exact ih (a + 1) (by omega)
/-- the product of x and y, told by numbers before the p(a), 720 times too great -/
def wk_mul (x y : Nat → Int64) (j : Nat) : Int64 := zsum (fun a => zsum (wk_t (x a) y a j) 0 30) 0 30
theorem t_multiply (h1 : bz_sh k1 = (1, 30, 0, [])) (h2 : bz_sh k2 = (1, 30, 0, [])) (h3 : bz_sh k3 = (1, 30, 0, [])) (hk1 : k1 < 73) (hk2 : k2 < 73) (hk3 : k3 < 73) (hn1 : k1 ≠ k3) (hn2 : k2 ≠ k3) (hT : pz_T σ.2.1) :
    ∃ f, bz_V l ad K 73 mX2_multiply 3 none (bz_setJ σ k3 f) 0 [some (.ref (ad 12)), some (.ref (ad k1)), some (.ref (ad k2)), some (.ref (ad k3)), none] [] σ ∧ ∀ j, j < 30 → f j = wk_mul (σ.1 k1) (σ.1 k2) j / 720 := by
  refine ⟨bz_upto (wk_m (bz_upto (σ.1 k3) (fun _ => 0) 30) (σ.1 k1) (σ.1 k2) 30) (fun j => wk_m (bz_upto (σ.1 k3) (fun _ => 0) 30) (σ.1 k1) (σ.1 k2) 30 j / 720) 30, ?_, fun j hj => ?_⟩
  · refine bz_aload_n dX2_multiply_0 rfl ?_
    refine bz_lconst dX2_multiply_1 kc_lconst_0 ?_
    refine bz_cS2U (z := 2) mv_J7_fill_d0a16 ws_J7_fill_d0a16 lk_X2_27 dX2_multiply_2 (by exact t_fill h3 hk3) (by omega) rfl (Nat.le_of_ble_eq_true rfl) (Nat.le_of_ble_eq_true rfl) ?_
    refine bz_iconst dX2_multiply_5 kc_iconst_0 ?_
    refine bz_ist4 dX2_multiply_6 (by decide) rfl ?_
    have := t_mul_loop (l := l) (ad := ad) (K := K) (σ := σ) (g := bz_upto (σ.1 k3) (fun _ => 0) 30) h1 h2 h3 hk1 hk2 hk3 hn1 hn2 hT 30 0 rfl
    rw [wk_m_0] at this
    exact this
  · rw [bz_upto_lt hj]
    unfold wk_m wk_mul
    rw [bz_upto_lt hj, Int64.zero_add]
end WK
end
section
/-! Work: scalars with powers, stretching, values -/
def xt_mulL : List (Option Nat) := [some 0, some 0, some 0, some 0, some 0, some 0, some 0, some 0, some 1, some 2, some 4, some 7, some 12, some 19, some 0, some 2, some 7, some 19, none, none, none, some 0, some 3, some 9, some 23, none, none, none, some 0, some 4, some 19, none, none, none, none, some 0, some 5, some 21, none, none, none, none, some 0, some 6, some 26, none, none, none, none, some 0, some 7, none, none, none, none, none, some 0, some 8, none, none, none, none, none, some 0, some 9, none, none, none, none, none, some 0, some 10, none, none, none, none, none, some 0, some 11, none, none, none, none, none, some 0, some 12, none, none, none, none, none, some 0, some 13, none, none, none, none, none, some 0, some 14, none, none, none, none, none, some 0, some 15, none, none, none, none, none, some 0, some 16, none, none, none, none, none, some 0, some 17, none, none, none, none, none, some 0, some 18, none, none, none, none, none, some 0, some 19, none, none, none, none, none, some 0, some 20, none, none, none, none, none, some 0, some 21, none, none, none, none, none, some 0, some 22, none, none, none, none, none, some 0, some 23, none, none, none, none, none, some 0, some 24, none, none, none, none, none, some 0, some 25, none, none, none, none, none, some 0, some 26, none, none, none, none, none, some 0, some 27, none, none, none, none, none, some 0, some 28, none, none, none, none, none, some 0, some 29, none, none, none, none, none]
def nsum (f : Nat → Nat) : Nat → Nat
  | 0 => 0
  | i + 1 => nsum f i + f i
def xt_mulM (a k : Nat) : Nat := nsum (fun i => xt_mk (k * xp_part a i)) 6
def xt_mulD (a k : Nat) : Nat := nsum (fun i => k * xp_part a i) 6
def xt_mul (a k : Nat) : Option Nat := xt_mulL.getD (a * 7 + k) none
theorem xt_mul_ok : ∀ a, a < 30 → ∀ k, k < 7 → xt_num (xt_mulM a k) (xt_mulD a k) = xt_mul a k ∧ xt_mulM a k < 2 ^ 31 ∧ xt_mulD a k < 2 ^ 31 := by decide +kernel
theorem xt_mul_lt : ∀ a, a < 30 → ∀ k, k < 7 → ∀ J, xt_mul a k = some J → J < 30 := by
  intro a ha k hk J hJ
  have h : ∀ a, a < 30 → ∀ k, k < 7 → (xt_mul a k).getD 0 < 30 := by decide +kernel
  have := h a ha k hk
  rw [hJ] at this
  exact this
theorem xt_mul_inj0 : ∀ a, a < 30 → ∀ b, b < 30 → ∀ k, k < 7 → k = 0 ∨ a ≤ b ∨ xt_mul a k = none ∨ ¬ xt_mul b k = xt_mul a k := by decide +kernel
theorem xt_mul_inj {k a b : Nat} (hk : k < 7) (h1 : 1 ≤ k) (ha : a < 30) (hb : b < a) : xt_mul a k = none ∨ ¬ xt_mul b k = xt_mul a k := by
  rcases xt_mul_inj0 a ha b (by omega) k hk with h | h | h
  · omega
  · omega
  · exact h
theorem xt_part6 : ∀ a, a < 30 → ∀ k, k < 6 → xp_part a k ≤ 6 := by decide +kernel
theorem xt_z720 : ∀ a, a < 30 → xt_z a * (720 / xt_z a) = 720 := by decide +kernel
def zpow (x : Int64) : Nat → Int64
  | 0 => 1
  | n + 1 => zpow x n * x
def xt_i3 (i j k : Nat) : Nat := (xt_num (xt_mk i + xt_mk j + xt_mk k) (i + j + k)).getD 0
theorem xt_i3_0 : ∀ i, i < 7 → ∀ j, j < 7 → ∀ k, k < 7 → 6 < i + j + k ∨ (xt_num (xt_mk i + xt_mk j + xt_mk k) (i + j + k) = some (xt_i3 i j k) ∧ xt_i3 i j k < 30 ∧ xt_mk i + xt_mk j + xt_mk k < 2 ^ 31) := by decide +kernel
theorem xt_i3_ok {i j k : Nat} (h : i + j + k ≤ 6) : xt_num (xt_mk i + xt_mk j + xt_mk k) (i + j + k) = some (xt_i3 i j k) ∧ xt_i3 i j k < 30 ∧ xt_mk i + xt_mk j + xt_mk k < 2 ^ 31 := by
  rcases xt_i3_0 i (by omega) j (by omega) k (by omega) with q | q
  · omega
  · exact q
def wk_sp (y : Nat → Int64) (a : Nat) : Int64 := y a * (nI (xt_z a)).toInt64 / 720
def wk_spr (x y : Nat → Int64) (c : Nat) : Int64 := zsum (fun d => x d * wk_sp y (xt_jn c d)) 0 (xp_start (6 - xt_deg c + 1))
section WL
variable {l : Launch} {ad : Nat → Nat} {K : bz_K} {σ σ' : bz_S} {k1 k2 k3 : Nat} {r : Option Value}
theorem t_swp {a : Nat} (ha : a < 30) (h1 : bz_sh k1 = (1, 30, 0, [])) (hk1 : k1 < 73) (hT : pz_T σ.2.1) : bz_V l ad K 73 mX2_scalarWithPower 0 (some (.long (wk_sp (σ.1 k1) a))) σ 0 [some (.ref (ad 12)), some (.int (nI a)), some (.ref (ad k1))] [] σ := by
  refine bz_aload_n dX2_scalarWithPower_0 rfl ?_
  refine bz_iload_n dX2_scalarWithPower_1 rfl ?_
  refine bz_laload dX2_scalarWithPower_2 h1 (by omega) ha ?_
  refine bz_aload_n dX2_scalarWithPower_3 rfl ?_
  refine bz_getf fl_X2_23 dX2_scalarWithPower_4 rfl rfl (by omega) ?_
  refine bz_getf fl_X2_61 dX2_scalarWithPower_7 rfl rfl (by omega) ?_
  refine bz_iload_n dX2_scalarWithPower_10 rfl ?_
  refine bz_iaload dX2_scalarWithPower_11 rfl (by omega) (by omega) ?_
  refine bz_topi (hT.2.2.2.2.1 a ha) ?_
  refine bz_i2l dX2_scalarWithPower_12 ?_
  refine bz_lmul dX2_scalarWithPower_13 ?_
  refine bz_ldc2 kl_X2_59 dX2_scalarWithPower_14 ?_
  refine bz_ldiv dX2_scalarWithPower_17 (by decide) ?_
  refine bz_lret dX2_scalarWithPower_18 rfl rfl rfl
theorem t_spr_loop {c : Nat} {T : Int64} (hc : c < 30) (h1 : bz_sh k1 = (1, 30, 0, [])) (h2 : bz_sh k2 = (1, 30, 0, [])) (hk1 : k1 < 73) (hk2 : k2 < 73) (hT : pz_T σ.2.1) :
    ∀ (m b : Nat) (acc : Int64) (x8 : Option Value), b + m = xp_start (6 - xt_deg c + 1) → acc + zsum (fun d => σ.1 k1 d * wk_sp (σ.1 k2) (xt_jn c d)) b m = T → bz_V l ad K 73 mX2_scalarWithProduct 2 (some (.long T)) σ 23 [some (.ref (ad 12)), some (.int (nI c)), some (.ref (ad k1)), some (.ref (ad k2)), some (.long acc), none, some (.int (nI (xp_start (6 - xt_deg c + 1)))), some (.int (nI b)), x8] [] σ := by
  have hle := (xp_start_le (6 - xt_deg c) (by omega)).2
  intro m
  induction m with
  | zero =>
    intro b acc x8 hb hs
    obtain rfl : b = xp_start (6 - xt_deg c + 1) := by omega
    obtain rfl := zsum_end hs
    refine bz_iload dX2_scalarWithProduct_23 rfl ?_
    refine bz_iload dX2_scalarWithProduct_25 rfl ?_
    refine bz_icmp_geN (tgt := 73) dX2_scalarWithProduct_27 rfl (by omega) (by omega) (fun _ => ?_) (fun q => absurd q (by omega))
    refine bz_lload dX2_scalarWithProduct_73 rfl ?_
    refine bz_lret dX2_scalarWithProduct_75 rfl rfl rfl
  | succ m ih =>
    intro b acc x8 hb hs
    have hj := xt_jn_ok c hc b (by omega) (by omega)
    have hjl := hj.2.2
    refine bz_iload dX2_scalarWithProduct_23 rfl ?_
    refine bz_iload dX2_scalarWithProduct_25 rfl ?_
    refine bz_icmp_geN (tgt := 73) dX2_scalarWithProduct_27 rfl (by omega) (by omega) (fun q => absurd q (by omega)) (fun _ => ?_)
    refine bz_aload_n dX2_scalarWithProduct_30 rfl ?_
    refine bz_getf fl_X2_23 dX2_scalarWithProduct_31 rfl rfl (by omega) ?_
    refine bz_iload_n dX2_scalarWithProduct_34 rfl ?_
    refine bz_iload dX2_scalarWithProduct_35 rfl ?_
    refine bz_cVN2I (z := 0) mv_X1_joined mi_X1_joined lk_X2_51 dX2_scalarWithProduct_37 (by exact t_joined (by omega) hc (by omega)) (by omega) rfl (by omega) rfl rfl rfl (Nat.le_of_ble_eq_true rfl) (Nat.le_of_ble_eq_true rfl) ?_
    refine bz_topi (y := nI (xt_jn c b)) ((hT.2.2.2.2.2.1 (c * 30 + b) (by omega)).trans hj.1) ?_
    refine bz_ist8 dX2_scalarWithProduct_40 (by decide) rfl ?_
    refine bz_iload dX2_scalarWithProduct_42 rfl ?_
    refine bz_cSN1I (z := 0) mv_X3_isPartition ws_X3_isPartition lk_X2_55 dX2_scalarWithProduct_44 (by exact t_isPart hjl) (by omega) rfl (Nat.le_of_ble_eq_true rfl) (Nat.le_of_ble_eq_true rfl) ?_
    refine bz_if_eq (tgt := 67) dX2_scalarWithProduct_47 rfl (fun q => absurd q (by decide)) (fun _ => ?_)
    refine bz_lload dX2_scalarWithProduct_50 rfl ?_
    refine bz_aload_n dX2_scalarWithProduct_52 rfl ?_
    refine bz_iload dX2_scalarWithProduct_53 rfl ?_
    refine bz_laload dX2_scalarWithProduct_55 h1 (by omega) (by omega) ?_
    refine bz_aload_n dX2_scalarWithProduct_56 rfl ?_
    refine bz_iload dX2_scalarWithProduct_57 rfl ?_
    refine bz_aload_n dX2_scalarWithProduct_59 rfl ?_
    refine bz_cV2L (z := 0) mv_X2_scalarWithPower mi_X2_scalarWithPower lk_X2_68 dX2_scalarWithProduct_60 (by exact t_swp hjl h2 hk2 (by exact hT)) (by omega) rfl (by omega) rfl rfl rfl (Nat.le_of_ble_eq_true rfl) (Nat.le_of_ble_eq_true rfl) ?_
    refine bz_lmul dX2_scalarWithProduct_63 ?_
    refine bz_ladd dX2_scalarWithProduct_64 ?_
    refine bz_lst4 dX2_scalarWithProduct_65 (by decide) rfl ?_
    first | refine bz_iinc7N dX2_scalarWithProduct_67 (by decide) rfl ?_ | refine bz_iinc7 dX2_scalarWithProduct_67 rfl (by decide) rfl ?_
    refine bz_goto (tgt := 23) dX2_scalarWithProduct_70 rfl ?_
    have hs2 := zsum_step hs
    exact ih (b + 1) _ _ (by omega) hs2
theorem t_spr {c : Nat} (hc : c < 30) (h1 : bz_sh k1 = (1, 30, 0, [])) (h2 : bz_sh k2 = (1, 30, 0, [])) (hk1 : k1 < 73) (hk2 : k2 < 73) (hT : pz_T σ.2.1) : bz_V l ad K 73 mX2_scalarWithProduct 2 (some (.long (wk_spr (σ.1 k1) (σ.1 k2) c))) σ 0 [some (.ref (ad 12)), some (.int (nI c)), some (.ref (ad k1)), some (.ref (ad k2)), none, none, none, none, none] [] σ := by
  have hd6 := xt_deg6 c hc
  refine bz_lconst dX2_scalarWithProduct_0 kc_lconst_0 ?_
  refine bz_lst4 dX2_scalarWithProduct_1 (by decide) rfl ?_
  refine bz_bipush dX2_scalarWithProduct_3 kc_bipush_6 ?_
  refine bz_aload_n dX2_scalarWithProduct_5 rfl ?_
  refine bz_getf fl_X2_23 dX2_scalarWithProduct_6 rfl rfl (by omega) ?_
  refine bz_getf fl_X2_41 dX2_scalarWithProduct_9 rfl rfl (by omega) ?_
  refine bz_iload_n dX2_scalarWithProduct_12 rfl ?_
  refine bz_iaload dX2_scalarWithProduct_13 rfl (by omega) (by omega) ?_
  refine bz_topi (hT.1 c hc) ?_
  refine bz_isubN dX2_scalarWithProduct_14 hd6 ?_
  refine bz_cSN1I (z := 0) mv_X1_endOf ws_X1_endOf lk_X2_47 dX2_scalarWithProduct_15 (by exact t_endOf (by omega)) (by omega) rfl (Nat.le_of_ble_eq_true rfl) (Nat.le_of_ble_eq_true rfl) ?_
  refine bz_ist6 dX2_scalarWithProduct_18 (by decide) rfl ?_
  refine bz_iconst dX2_scalarWithProduct_20 kc_iconst_0 ?_
  refine bz_ist7 dX2_scalarWithProduct_21 (by decide) rfl ?_
  exact t_spr_loop hc h1 h2 hk1 hk2 hT (xp_start (6 - xt_deg c + 1)) 0 0 none (Nat.zero_add _) (Int64.zero_add _)
theorem t_strip_loop (h1 : bz_sh k1 = (1, 30, 0, [])) (h2 : bz_sh k2 = (1, 30, 0, [])) (h3 : bz_sh k3 = (1, 30, 0, [])) (hk1 : k1 < 73) (hk2 : k2 < 73) (hk3 : k3 < 73) (hn1 : k1 ≠ k3) (hn2 : k2 ≠ k3) (hT : pz_T σ.2.1) {F : Nat → Int64} (hF : ∀ c, c < 30 → F c = wk_spr (σ.1 k1) (σ.1 k2) c / (nI (xt_z c)).toInt64) :
    ∀ (m c : Nat) (x5 x6 x7 : Option Value), c + m = 30 → bz_V l ad K 73 mX2_stripOff 3 none (bz_setJ σ k3 (bz_upto (σ.1 k3) F 30)) 3 [some (.ref (ad 12)), some (.ref (ad k1)), some (.ref (ad k2)), some (.ref (ad k3)), some (.int (nI c)), x5, x6, x7] [] (bz_setJ σ k3 (bz_upto (σ.1 k3) F c)) := by
  intro m
  induction m with
  | zero =>
    intro c x5 x6 x7 hc
    obtain rfl : c = 30 := by omega
    refine bz_iload dX2_stripOff_3 rfl ?_
    refine bz_bipush dX2_stripOff_5 kc_bipush_30 ?_
    refine bz_icmp_geN (tgt := 57) dX2_stripOff_7 rfl (by omega) (by omega) (fun _ => ?_) (fun q => absurd q (by omega))
    refine bz_vret dX2_stripOff_57 rfl rfl
  | succ m ih =>
    intro c x5 x6 x7 hc
    have h30 : c < 30 := by omega
    have hz := xt_zpos c h30
    refine bz_iload dX2_stripOff_3 rfl ?_
    refine bz_bipush dX2_stripOff_5 kc_bipush_30 ?_
    refine bz_icmp_geN (tgt := 57) dX2_stripOff_7 rfl (by omega) (by omega) (fun q => absurd q (by omega)) (fun _ => ?_)
    refine bz_aload_n dX2_stripOff_10 rfl ?_
    refine bz_iload dX2_stripOff_11 rfl ?_
    refine bz_aload_n dX2_stripOff_13 rfl ?_
    refine bz_aload_n dX2_stripOff_14 rfl ?_
    refine bz_cV3L (z := 5) mv_X2_scalarWithProduct mi_X2_scalarWithProduct lk_X2_64 dX2_stripOff_15 (by exact t_spr h30 h1 h2 hk1 hk2 (by exact hT)) (by omega) rfl (by omega) rfl rfl rfl (Nat.le_of_ble_eq_true rfl) (Nat.le_of_ble_eq_true rfl) ?_
    refine bz_topl (y := wk_spr (σ.1 k1) (σ.1 k2) c) (by rw [bz_setJ_ne hn1, bz_setJ_ne hn2]) ?_
    refine bz_lst5 dX2_stripOff_18 (by decide) rfl ?_
    refine bz_aload_n dX2_stripOff_20 rfl ?_
    refine bz_getf fl_X2_23 dX2_stripOff_21 rfl rfl (by omega) ?_
    refine bz_getf fl_X2_61 dX2_stripOff_24 rfl rfl (by omega) ?_
    refine bz_iload dX2_stripOff_27 rfl ?_
    refine bz_iaload dX2_stripOff_29 rfl (by omega) (by omega) ?_
    refine bz_topi (hT.2.2.2.2.1 c h30) ?_
    refine bz_ist7 dX2_stripOff_30 (by decide) rfl ?_
    refine bz_aload_n dX2_stripOff_32 rfl ?_
    refine bz_iload dX2_stripOff_33 rfl ?_
    refine bz_iload dX2_stripOff_35 rfl ?_
    refine bz_if_le (tgt := 49) dX2_stripOff_37 rfl (fun q => absurd q (nI_nle hz.1 (by omega))) (fun _ => ?_)
    refine bz_lload dX2_stripOff_40 rfl ?_
    refine bz_iload dX2_stripOff_42 rfl ?_
    refine bz_i2l dX2_stripOff_44 ?_
    refine bz_ldiv dX2_stripOff_45 (fun q => absurd q (by
      rw [nI_l (by omega)]
      intro q
      have := (pk_lEQ (a := xt_z c) (b := 0) (by omega) (by omega)).mp q
      omega)) ?_
    refine bz_goto (tgt := 50) dX2_stripOff_46 rfl ?_
    refine bz_lastore dX2_stripOff_50 h3 (by omega) h30 ?_
    first | refine bz_iinc4N dX2_stripOff_51 (by decide) rfl ?_ | refine bz_iinc4 dX2_stripOff_51 rfl (by decide) rfl ?_
    refine bz_goto (tgt := 3) dX2_stripOff_54 rfl ?_
    refine bz_st (by rw [bz_upJ_set, bz_upto_s (hF c h30).symm]) ?_
    exact ih (c + 1) _ _ _ (by omega)
theorem t_stripOff (h1 : bz_sh k1 = (1, 30, 0, [])) (h2 : bz_sh k2 = (1, 30, 0, [])) (h3 : bz_sh k3 = (1, 30, 0, [])) (hk1 : k1 < 73) (hk2 : k2 < 73) (hk3 : k3 < 73) (hn1 : k1 ≠ k3) (hn2 : k2 ≠ k3) (hT : pz_T σ.2.1) {F : Nat → Int64} (hF : ∀ c, c < 30 → F c = wk_spr (σ.1 k1) (σ.1 k2) c / (nI (xt_z c)).toInt64) : bz_V l ad K 73 mX2_stripOff 3 none (bz_setJ σ k3 (bz_upto (σ.1 k3) F 30)) 0 [some (.ref (ad 12)), some (.ref (ad k1)), some (.ref (ad k2)), some (.ref (ad k3)), none, none, none, none] [] σ := by
  refine bz_iconst dX2_stripOff_0 kc_iconst_0 ?_
  refine bz_ist4 dX2_stripOff_1 (by decide) rfl ?_
  refine bz_st (by rw [bz_setJ_id (bz_upto_0 _ F)]) (t_strip_loop h1 h2 h3 hk1 hk2 hk3 hn1 hn2 hT hF 30 0 none none none rfl)
theorem t_meet_loop (h1 : bz_sh k1 = (1, 30, 0, [])) (h2 : bz_sh k2 = (1, 30, 0, [])) (h3 : bz_sh k3 = (1, 30, 0, [])) (hk1 : k1 < 73) (hk2 : k2 < 73) (hk3 : k3 < 73) (hn1 : k1 ≠ k3) (hn2 : k2 ≠ k3) (hT : pz_T σ.2.1) :
    ∀ (m c : Nat), c + m = 30 → bz_V l ad K 73 mX2_meetWith 1 none (bz_setJ σ k3 (bz_upto (σ.1 k3) (fun c => σ.1 k1 c * wk_sp (σ.1 k2) c) 30)) 3 [some (.ref (ad 12)), some (.ref (ad k1)), some (.ref (ad k2)), some (.ref (ad k3)), some (.int (nI c))] [] (bz_setJ σ k3 (bz_upto (σ.1 k3) (fun c => σ.1 k1 c * wk_sp (σ.1 k2) c) c)) := by
  intro m
  induction m with
  | zero =>
    intro c hc
    obtain rfl : c = 30 := by omega
    refine bz_iload dX2_meetWith_3 rfl ?_
    refine bz_bipush dX2_meetWith_5 kc_bipush_30 ?_
    refine bz_icmp_geN (tgt := 32) dX2_meetWith_7 rfl (by omega) (by omega) (fun _ => ?_) (fun q => absurd q (by omega))
    refine bz_vret dX2_meetWith_32 rfl rfl
  | succ m ih =>
    intro c hc
    have h30 : c < 30 := by omega
    refine bz_iload dX2_meetWith_3 rfl ?_
    refine bz_bipush dX2_meetWith_5 kc_bipush_30 ?_
    refine bz_icmp_geN (tgt := 32) dX2_meetWith_7 rfl (by omega) (by omega) (fun q => absurd q (by omega)) (fun _ => ?_)
    refine bz_aload_n dX2_meetWith_10 rfl ?_
    refine bz_iload dX2_meetWith_11 rfl ?_
    refine bz_aload_n dX2_meetWith_13 rfl ?_
    refine bz_iload dX2_meetWith_14 rfl ?_
    refine bz_laload dX2_meetWith_16 h1 (by omega) h30 ?_
    refine bz_topl (y := σ.1 k1 c) (by rw [bz_setJ_ne hn1]) ?_
    refine bz_aload_n dX2_meetWith_17 rfl ?_
    refine bz_iload dX2_meetWith_18 rfl ?_
    refine bz_aload_n dX2_meetWith_20 rfl ?_
    refine bz_cV2L (z := 0) mv_X2_scalarWithPower mi_X2_scalarWithPower lk_X2_68 dX2_meetWith_21 (by exact t_swp h30 h2 hk2 (by exact hT)) (by omega) rfl (by omega) rfl rfl rfl (Nat.le_of_ble_eq_true rfl) (Nat.le_of_ble_eq_true rfl) ?_
    refine bz_topl (y := wk_sp (σ.1 k2) c) (by rw [bz_setJ_ne hn2]) ?_
    refine bz_lmul dX2_meetWith_24 ?_
    refine bz_lastore dX2_meetWith_25 h3 (by omega) h30 ?_
    first | refine bz_iinc4N dX2_meetWith_26 (by decide) rfl ?_ | refine bz_iinc4 dX2_meetWith_26 rfl (by decide) rfl ?_
    refine bz_goto (tgt := 3) dX2_meetWith_29 rfl ?_
    refine bz_st (by rw [bz_upJ_set, bz_upto_s rfl]) ?_
    exact ih (c + 1) (by omega)
theorem t_meetWith (h1 : bz_sh k1 = (1, 30, 0, [])) (h2 : bz_sh k2 = (1, 30, 0, [])) (h3 : bz_sh k3 = (1, 30, 0, [])) (hk1 : k1 < 73) (hk2 : k2 < 73) (hk3 : k3 < 73) (hn1 : k1 ≠ k3) (hn2 : k2 ≠ k3) (hT : pz_T σ.2.1) : bz_V l ad K 73 mX2_meetWith 1 none (bz_setJ σ k3 (bz_upto (σ.1 k3) (fun c => σ.1 k1 c * wk_sp (σ.1 k2) c) 30)) 0 [some (.ref (ad 12)), some (.ref (ad k1)), some (.ref (ad k2)), some (.ref (ad k3)), none] [] σ := by
  refine bz_iconst dX2_meetWith_0 kc_iconst_0 ?_
  refine bz_ist4 dX2_meetWith_1 (by decide) rfl ?_
  refine bz_st (by rw [bz_setJ_id (bz_upto_0 _ (fun c => σ.1 k1 c * wk_sp (σ.1 k2) c))]) (t_meet_loop h1 h2 h3 hk1 hk2 hk3 hn1 hn2 hT 30 0 rfl)
theorem t_multd_loop {n : Nat} (hn : 9 ≤ n) {a k : Nat} (ha : a < 30) (hk : k < 7) (hm : ∀ i, i < 30 → σ.2.1 3 i = nI (xt_mark i)) :
    ∀ (m i : Nat), i + m = 6 → bz_V l ad K n mX1_multiplied 2 (some (.int (xt_o (xt_mul a k)))) σ 8 [some (.ref (ad 0)), some (.int (nI a)), some (.int (nI k)), some (.int (nI (nsum (fun i => xt_mk (k * xp_part a i)) i))), some (.int (nI (nsum (fun i => k * xp_part a i) i))), some (.int (nI i))] [] σ := by
  have hok := xt_mul_ok a ha k hk
  intro m
  induction m with
  | zero =>
    intro i hi
    obtain rfl : i = 6 := by omega
    refine bz_iload dX1_multiplied_8 rfl ?_
    refine bz_bipush dX1_multiplied_10 kc_bipush_6 ?_
    refine bz_icmp_geN (tgt := 50) dX1_multiplied_12 rfl (by omega) (by omega) (fun _ => ?_) (fun q => absurd q (by omega))
    refine bz_aload_n dX1_multiplied_50 rfl ?_
    refine bz_iload_n dX1_multiplied_51 rfl ?_
    refine bz_iload dX1_multiplied_52 rfl ?_
    refine bz_cV2I (z := 2) mv_X1_numberOf mi_X1_numberOf lk_X1_44 dX1_multiplied_54 (by exact t_numberOf hn hok.2.1 hok.2.2 hm) (by omega) rfl (by omega) rfl rfl rfl (Nat.le_of_ble_eq_true rfl) (Nat.le_of_ble_eq_true rfl) ?_
    refine bz_iret dX1_multiplied_57 rfl ?_ ?_
    · rw [← hok.1]
      rfl
    · rfl
  | succ m ih =>
    intro i hi
    have h6 : i < 6 := by omega
    have hp := xt_part6 a ha i h6
    have hkp : k * xp_part a i ≤ 36 := Nat.le_trans (Nat.mul_le_mul (show k ≤ 6 by omega) hp) (by omega)
    refine bz_iload dX1_multiplied_8 rfl ?_
    refine bz_bipush dX1_multiplied_10 kc_bipush_6 ?_
    refine bz_icmp_geN (tgt := 50) dX1_multiplied_12 rfl (by omega) (by omega) (fun q => absurd q (by omega)) (fun _ => ?_)
    refine bz_iload_n dX1_multiplied_15 rfl ?_
    refine bz_iload_n dX1_multiplied_16 rfl ?_
    refine bz_aload_n dX1_multiplied_17 rfl ?_
    refine bz_iload_n dX1_multiplied_18 rfl ?_
    refine bz_iload dX1_multiplied_19 rfl ?_
    refine bz_cV2I (z := 0) mv_X1_partAt mi_X1_partAt lk_X1_70 dX1_multiplied_21 (by exact t_partAt ha h6) (by omega) rfl (by omega) rfl rfl rfl (Nat.le_of_ble_eq_true rfl) (Nat.le_of_ble_eq_true rfl) ?_
    first | refine bz_imulN dX1_multiplied_24 ?_ | refine bz_imul dX1_multiplied_24 ?_
    refine bz_cS1I (z := 0) mv_X1_markOf ws_X1_markOf lk_X1_73 dX1_multiplied_25 (by exact t_markOf (by omega)) (by omega) rfl (Nat.le_of_ble_eq_true rfl) (Nat.le_of_ble_eq_true rfl) ?_
    first | refine bz_iaddN dX1_multiplied_28 ?_ | refine bz_iadd dX1_multiplied_28 ?_
    refine bz_ist3 dX1_multiplied_29 (by decide) rfl ?_
    refine bz_iload dX1_multiplied_30 rfl ?_
    refine bz_iload_n dX1_multiplied_32 rfl ?_
    refine bz_aload_n dX1_multiplied_33 rfl ?_
    refine bz_iload_n dX1_multiplied_34 rfl ?_
    refine bz_iload dX1_multiplied_35 rfl ?_
    refine bz_cV2I (z := 0) mv_X1_partAt mi_X1_partAt lk_X1_70 dX1_multiplied_37 (by exact t_partAt ha h6) (by omega) rfl (by omega) rfl rfl rfl (Nat.le_of_ble_eq_true rfl) (Nat.le_of_ble_eq_true rfl) ?_
    first | refine bz_imulN dX1_multiplied_40 ?_ | refine bz_imul dX1_multiplied_40 ?_
    first | refine bz_iaddN dX1_multiplied_41 ?_ | refine bz_iadd dX1_multiplied_41 ?_
    refine bz_ist4 dX1_multiplied_42 (by decide) rfl ?_
    first | refine bz_iinc5N dX1_multiplied_44 (by decide) rfl ?_ | refine bz_iinc5 dX1_multiplied_44 rfl (by decide) rfl ?_
    refine bz_goto (tgt := 8) dX1_multiplied_47 rfl ?_
    exact ih (i + 1) (by omega)
theorem t_multiplied {n : Nat} (hn : 9 ≤ n) {a k : Nat} (ha : a < 30) (hk : k < 7) (hm : ∀ i, i < 30 → σ.2.1 3 i = nI (xt_mark i)) : bz_V l ad K n mX1_multiplied 2 (some (.int (xt_o (xt_mul a k)))) σ 0 [some (.ref (ad 0)), some (.int (nI a)), some (.int (nI k)), none, none, none] [] σ := by
  refine bz_iconst dX1_multiplied_0 kc_iconst_0 ?_
  refine bz_ist3 dX1_multiplied_1 (by decide) rfl ?_
  refine bz_iconst dX1_multiplied_2 kc_iconst_0 ?_
  refine bz_ist4 dX1_multiplied_3 (by decide) rfl ?_
  refine bz_iconst dX1_multiplied_5 kc_iconst_0 ?_
  refine bz_ist5 dX1_multiplied_6 (by decide) rfl ?_
  exact t_multd_loop hn ha hk hm 6 0 rfl
theorem t_pow_loop {x : Int64} {e : Nat} (he : e < 2 ^ 31) :
    ∀ (m i : Nat), i + m = e → bz_V l ad K 73 mX2_powerOf 0 (some (.long (zpow x e))) σ 5 [some (.long x), none, some (.int (nI e)), some (.long (zpow x i)), none, some (.int (nI i))] [] σ := by
  intro m
  induction m with
  | zero =>
    intro i hi
    obtain rfl : i = e := by omega
    refine bz_iload dX2_powerOf_5 rfl ?_
    refine bz_iload_n dX2_powerOf_7 rfl ?_
    refine bz_icmp_geN (tgt := 21) dX2_powerOf_8 rfl (by omega) (by omega) (fun _ => ?_) (fun q => absurd q (by omega))
    refine bz_lload_n dX2_powerOf_21 rfl ?_
    refine bz_lret dX2_powerOf_22 rfl rfl rfl
  | succ m ih =>
    intro i hi
    refine bz_iload dX2_powerOf_5 rfl ?_
    refine bz_iload_n dX2_powerOf_7 rfl ?_
    refine bz_icmp_geN (tgt := 21) dX2_powerOf_8 rfl (by omega) (by omega) (fun q => absurd q (by omega)) (fun _ => ?_)
    refine bz_lload_n dX2_powerOf_11 rfl ?_
    refine bz_lload_n dX2_powerOf_12 rfl ?_
    refine bz_lmul dX2_powerOf_13 ?_
    refine bz_lst3 dX2_powerOf_14 (by decide) rfl ?_
    first | refine bz_iinc5N dX2_powerOf_15 (by decide) rfl ?_ | refine bz_iinc5 dX2_powerOf_15 rfl (by decide) rfl ?_
    refine bz_goto (tgt := 5) dX2_powerOf_18 rfl ?_
    exact ih (i + 1) (by omega)
theorem t_powerOf {x : Int64} {e : Nat} (he : e < 2 ^ 31) : bz_V l ad K 73 mX2_powerOf 0 (some (.long (zpow x e))) σ 0 [some (.long x), none, some (.int (nI e)), none, none, none] [] σ := by
  refine bz_lconst dX2_powerOf_0 kc_lconst_1 ?_
  refine bz_lst3 dX2_powerOf_1 (by decide) rfl ?_
  refine bz_iconst dX2_powerOf_2 kc_iconst_0 ?_
  refine bz_ist5 dX2_powerOf_3 (by decide) rfl ?_
  exact t_pow_loop he e 0 (Nat.zero_add _)
end WL
end
section
/-! Work: stretching, plugging, values -/
theorem bz_sh14 : ∀ p, p < 7 → bz_sh (14 + p) = (1, 30, 0, []) := by decide +kernel
def wk_sI (x : Nat → Int64) (k j : Nat) : Nat → Int64 := fun a => if xt_mul a k = some j then x a else 0
def wk_st (g x : Nat → Int64) (k a : Nat) : Nat → Int64 := fun j => g j + zsum (wk_sI x k j) 0 a
def wk_str (x : Nat → Int64) (k j : Nat) : Int64 := zsum (wk_sI x k j) 0 30
theorem wk_st_0 (g x : Nat → Int64) (k : Nat) : wk_st g x k 0 = g := by
  funext j
  simp [wk_st, zsum]
theorem wk_st_n {g x : Nat → Int64} {k a : Nat} (h : xt_mul a k = none) : wk_st g x k a = wk_st g x k (a + 1) := by
  funext j
  unfold wk_st
  rw [zsum_succ, Nat.zero_add]
  have : wk_sI x k j a = 0 := by simp [wk_sI, h]
  rw [this, Int64.add_zero]
theorem wk_st_s {g x : Nat → Int64} {k a J : Nat} (hk : k < 7) (h1 : 1 ≤ k) (ha : a < 30) (h : xt_mul a k = some J) (hg : g J = 0) : vp_updL (wk_st g x k a) J (x a) = wk_st g x k (a + 1) := by
  funext j
  unfold vp_updL
  by_cases e : j = J
  · subst e
    rw [if_pos rfl]
    unfold wk_st
    rw [zsum_succ, Nat.zero_add, hg, Int64.zero_add, zsum_0 a 0 (fun i _ hi => by
      rcases xt_mul_inj hk h1 ha (show i < a by omega) with q | q
      · rw [h] at q; cases q
      · rw [h] at q; simp [wk_sI, q]), Int64.zero_add]
    simp [wk_sI, h]
  · rw [if_neg e]
    unfold wk_st
    rw [zsum_succ, Nat.zero_add]
    have : wk_sI x k j a = 0 := by
      unfold wk_sI
      rw [if_neg]
      rw [h]
      intro q
      cases q
      exact e rfl
    rw [this, Int64.add_zero]
theorem wk_t_congr {num num' : Int64} {x x' : Nat → Int64} {a j b : Nat} (h1 : num = num') (h2 : x b = x' b) : wk_t num x a j b = wk_t num' x' a j b := by
  unfold wk_t
  rw [h1, h2]
theorem wk_mul_congr {x x' y y' : Nat → Int64} (hx : ∀ j, j < 30 → x j = x' j) (hy : ∀ j, j < 30 → y j = y' j) (j : Nat) : wk_mul x y j = wk_mul x' y' j := by
  unfold wk_mul
  exact zsum_congr _ _ (fun a _ h => zsum_congr _ _ (fun b _ h2 => wk_t_congr (hx a (by omega)) (hy b (by omega))))
/-- p(c) plugged: numbers before the p(a), 720 times too great -/
def wk_pp (St : Nat → Nat → Int64) (c : Nat) : Nat → Nat → Int64
  | 0 => fun j => if j = 0 then 720 else 0
  | i + 1 => fun j => wk_mul (St (xp_part c i)) (wk_pp St c i) j / 720
theorem xt_part1 : ∀ c, c < 30 → ∀ i, i < xt_len c → 1 ≤ xp_part c i := by decide +kernel
theorem xt_len6 : ∀ a, a < 30 → xt_len a ≤ 6 := by decide +kernel
def bz_pw (σ σ2 : bz_S) : Prop := σ2.2 = σ.2 ∧ ∀ j, j ≠ 21 → j ≠ 22 → σ2.1 j = σ.1 j
theorem bz_pw_tr {a b c : bz_S} (h1 : bz_pw a b) (h2 : bz_pw b c) : bz_pw a c := ⟨h2.1.trans h1.1, fun j q1 q2 => (h2.2 j q1 q2).trans (h1.2 j q1 q2)⟩
theorem bz_pw_tr2 {a b c : bz_S} (h2 : bz_pw b c) (h1 : bz_pw a b) : bz_pw a c := bz_pw_tr h1 h2
section WM
variable {l : Launch} {ad : Nat → Nat} {K : bz_K} {σ σ' : bz_S} {k1 k2 k3 : Nat} {r : Option Value}
theorem t_stretch_loop {k : Nat} {g : Nat → Int64} (hg : ∀ j, j < 30 → g j = 0) (hk : k < 7) (hk0 : 1 ≤ k) (h1 : bz_sh k1 = (1, 30, 0, [])) (h2 : bz_sh k2 = (1, 30, 0, [])) (hk1 : k1 < 73) (hk2 : k2 < 73) (hne : k1 ≠ k2) (hT : pz_T σ.2.1) :
    ∀ (m a : Nat) (x5 : Option Value), a + m = 30 → bz_V l ad K 73 mX2_stretch 3 none (bz_setJ σ k2 (wk_st g (σ.1 k1) k 30)) 8 [some (.ref (ad 12)), some (.ref (ad k1)), some (.int (nI k)), some (.ref (ad k2)), some (.int (nI a)), x5] [] (bz_setJ σ k2 (wk_st g (σ.1 k1) k a)) := by
  intro m
  induction m with
  | zero =>
    intro a x5 ha
    obtain rfl : a = 30 := by omega
    refine bz_iload dX2_stretch_8 rfl ?_
    refine bz_bipush dX2_stretch_10 kc_bipush_30 ?_
    refine bz_icmp_geN (tgt := 49) dX2_stretch_12 rfl (by omega) (by omega) (fun _ => ?_) (fun q => absurd q (by omega))
    refine bz_vret dX2_stretch_49 rfl rfl
  | succ m ih =>
    intro a x5 ha
    have h30 : a < 30 := by omega
    refine bz_iload dX2_stretch_8 rfl ?_
    refine bz_bipush dX2_stretch_10 kc_bipush_30 ?_
    refine bz_icmp_geN (tgt := 49) dX2_stretch_12 rfl (by omega) (by omega) (fun q => absurd q (by omega)) (fun _ => ?_)
    refine bz_aload_n dX2_stretch_15 rfl ?_
    refine bz_getf fl_X2_23 dX2_stretch_16 rfl rfl (by omega) ?_
    refine bz_iload dX2_stretch_19 rfl ?_
    refine bz_iload_n dX2_stretch_21 rfl ?_
    refine bz_cVN2I (z := 3) mv_X1_multiplied mi_X1_multiplied lk_X2_96 dX2_stretch_22 (by exact t_multiplied (by omega) h30 hk (by exact hT.2.2.1)) (by omega) rfl (by omega) rfl rfl rfl (Nat.le_of_ble_eq_true rfl) (Nat.le_of_ble_eq_true rfl) ?_
    cases hm : xt_mul a k with
    | none =>
      refine bz_topi (y := -1) rfl ?_
      refine bz_ist5 dX2_stretch_25 (by decide) rfl ?_
      refine bz_iload dX2_stretch_27 rfl ?_
      refine bz_cSN1I (z := 0) mv_X3_isPartition ws_X3_isPartition lk_X2_55 dX2_stretch_29 (by exact t_isPartF (Or.inl (by decide))) (by omega) rfl (Nat.le_of_ble_eq_true rfl) (Nat.le_of_ble_eq_true rfl) ?_
      refine bz_if_eq (tgt := 43) dX2_stretch_32 rfl (fun _ => ?_) (fun q => absurd (by decide) q)
      first | refine bz_iinc4N dX2_stretch_43 (by decide) rfl ?_ | refine bz_iinc4 dX2_stretch_43 rfl (by decide) rfl ?_
      refine bz_goto (tgt := 8) dX2_stretch_46 rfl ?_
      refine bz_st (by rw [wk_st_n hm]) ?_
      exact ih (a + 1) _ (by omega)
    | some J =>
      have hJ := xt_mul_lt a h30 k hk J hm
      refine bz_topi (y := nI J) rfl ?_
      refine bz_ist5 dX2_stretch_25 (by decide) rfl ?_
      refine bz_iload dX2_stretch_27 rfl ?_
      refine bz_cSN1I (z := 0) mv_X3_isPartition ws_X3_isPartition lk_X2_55 dX2_stretch_29 (by exact t_isPart hJ) (by omega) rfl (Nat.le_of_ble_eq_true rfl) (Nat.le_of_ble_eq_true rfl) ?_
      refine bz_if_eq (tgt := 43) dX2_stretch_32 rfl (fun q => absurd q (by decide)) (fun _ => ?_)
      refine bz_aload_n dX2_stretch_35 rfl ?_
      refine bz_iload dX2_stretch_36 rfl ?_
      refine bz_aload_n dX2_stretch_38 rfl ?_
      refine bz_iload dX2_stretch_39 rfl ?_
      refine bz_laload dX2_stretch_41 h1 (by omega) h30 ?_
      refine bz_topl (y := σ.1 k1 a) (by rw [bz_setJ_ne hne]) ?_
      refine bz_lastore dX2_stretch_42 h2 (by omega) hJ ?_
      first | refine bz_iinc4N dX2_stretch_43 (by decide) rfl ?_ | refine bz_iinc4 dX2_stretch_43 rfl (by decide) rfl ?_
      refine bz_goto (tgt := 8) dX2_stretch_46 rfl ?_
      refine bz_st (by rw [bz_upJ_set, wk_st_s hk hk0 h30 hm (hg J hJ)]) ?_
      exact ih (a + 1) _ (by omega)
theorem t_stretch {k : Nat} (hk : k < 7) (hk0 : 1 ≤ k) (h1 : bz_sh k1 = (1, 30, 0, [])) (h2 : bz_sh k2 = (1, 30, 0, [])) (hk1 : k1 < 73) (hk2 : k2 < 73) (hne : k1 ≠ k2) (hT : pz_T σ.2.1) : bz_V l ad K 73 mX2_stretch 3 none (bz_setJ σ k2 (wk_st (bz_upto (σ.1 k2) (fun _ => 0) 30) (σ.1 k1) k 30)) 0 [some (.ref (ad 12)), some (.ref (ad k1)), some (.int (nI k)), some (.ref (ad k2)), none, none] [] σ := by
  refine bz_aload_n dX2_stretch_0 rfl ?_
  refine bz_lconst dX2_stretch_1 kc_lconst_0 ?_
  refine bz_cS2U (z := 2) mv_J7_fill_d0a16 ws_J7_fill_d0a16 lk_X2_27 dX2_stretch_2 (by exact t_fill h2 hk2) (by omega) rfl (Nat.le_of_ble_eq_true rfl) (Nat.le_of_ble_eq_true rfl) ?_
  refine bz_iconst dX2_stretch_5 kc_iconst_0 ?_
  refine bz_ist4 dX2_stretch_6 (by decide) rfl ?_
  have := t_stretch_loop (l := l) (ad := ad) (K := K) (σ := σ) (g := bz_upto (σ.1 k2) (fun _ => 0) 30) (fun j hj => bz_upto_lt hj) hk hk0 h1 h2 hk1 hk2 hne hT 30 0 none rfl
  rw [wk_st_0] at this
  exact this
theorem t_pp_loop {c : Nat} {St : Nat → Nat → Int64} (hc : c < 30) :
    ∀ (m i : Nat) (σ : bz_S) (x3 : Option Value), i + m = xt_len c → pz_T σ.2.1 → (∀ k, k < 7 → ∀ j, j < 30 → σ.1 (14 + k) j = St k j) → (∀ j, j < 30 → σ.1 21 j = wk_pp St c i j) →
      ∃ σ2, bz_V l ad K 73 mX2_plugPower 4 none σ2 19 [some (.ref (ad 12)), some (.int (nI c)), some (.int (nI i)), x3] [] σ ∧ bz_pw σ σ2 ∧ ∀ j, j < 30 → σ2.1 21 j = wk_pp St c (xt_len c) j := by
  have hl6 := xt_len6 c hc
  intro m
  induction m with
  | zero =>
    intro i σ x3 hi hT hSt hP
    obtain rfl : i = xt_len c := by omega
    refine ⟨σ, ?_, ⟨rfl, fun _ _ _ => rfl⟩, hP⟩
    refine bz_iload_n dX2_plugPower_19 rfl ?_
    refine bz_aload_n dX2_plugPower_20 rfl ?_
    refine bz_getf fl_X2_23 dX2_plugPower_21 rfl rfl (by omega) ?_
    refine bz_getf fl_X2_80 dX2_plugPower_24 rfl rfl (by omega) ?_
    refine bz_iload_n dX2_plugPower_27 rfl ?_
    refine bz_iaload dX2_plugPower_28 rfl (by omega) (by omega) ?_
    refine bz_topi (hT.2.1 c hc) ?_
    refine bz_icmp_geN (tgt := 91) dX2_plugPower_29 rfl (by omega) (by omega) (fun _ => ?_) (fun q => absurd q (by omega))
    refine bz_vret dX2_plugPower_91 rfl rfl
  | succ m ih =>
    intro i σ x3 hi hT hSt hP
    have h6 : i < 6 := by omega
    have hp1 := xt_part1 c hc i (by omega)
    have hp := xt_part6 c hc i h6
    have h14 := bz_sh14 (xp_part c i) (by omega)
    obtain ⟨f, hV, hf⟩ := t_multiply (l := l) (ad := ad) (K := K) (σ := σ) (k1 := 14 + xp_part c i) (k2 := 21) (k3 := 22) h14 rfl rfl (by omega) (by omega) (by omega) (by omega) (by omega) hT
    obtain ⟨σ2, hV2, hpw, hr⟩ := ih (i + 1) (bz_setJ (bz_setJ σ 22 f) 21 (fun j => if j < 30 then (bz_setJ σ 22 f).1 22 j else (bz_setJ σ 22 f).1 21 j)) (some (.int (nI (xp_part c i)))) (by omega) (by exact hT)
      (fun k hk j hj => by rw [bz_setJ_ne (by omega), bz_setJ_ne (by omega)]; exact hSt k hk j hj)
      (fun j hj => by
        rw [bz_setJ_at, if_pos hj, bz_setJ_at, hf j hj, wk_pp]
        exact congrArg (fun z => z / 720) (wk_mul_congr (hSt _ (by omega)) hP j))
    refine ⟨σ2, ?_, bz_pw_tr2 hpw ⟨rfl, fun j q1 q2 => by rw [bz_setJ_ne q1, bz_setJ_ne q2]⟩, hr⟩
    refine bz_iload_n dX2_plugPower_19 rfl ?_
    refine bz_aload_n dX2_plugPower_20 rfl ?_
    refine bz_getf fl_X2_23 dX2_plugPower_21 rfl rfl (by omega) ?_
    refine bz_getf fl_X2_80 dX2_plugPower_24 rfl rfl (by omega) ?_
    refine bz_iload_n dX2_plugPower_27 rfl ?_
    refine bz_iaload dX2_plugPower_28 rfl (by omega) (by omega) ?_
    refine bz_topi (hT.2.1 c hc) ?_
    refine bz_icmp_geN (tgt := 91) dX2_plugPower_29 rfl (by omega) (by omega) (fun q => absurd q (by omega)) (fun _ => ?_)
    refine bz_aload_n dX2_plugPower_32 rfl ?_
    refine bz_getf fl_X2_23 dX2_plugPower_33 rfl rfl (by omega) ?_
    refine bz_iload_n dX2_plugPower_36 rfl ?_
    refine bz_iload_n dX2_plugPower_37 rfl ?_
    refine bz_cVN2I (z := 0) mv_X1_partAt mi_X1_partAt lk_X2_83 dX2_plugPower_38 (by exact t_partAt hc h6) (by omega) rfl (by omega) rfl rfl rfl (Nat.le_of_ble_eq_true rfl) (Nat.le_of_ble_eq_true rfl) ?_
    refine bz_ist3 dX2_plugPower_41 (by decide) rfl ?_
    refine bz_iload_n dX2_plugPower_42 rfl ?_
    refine bz_if_le (tgt := 85) dX2_plugPower_43 rfl (fun q => absurd q (nI_nle hp1 (by omega))) (fun _ => ?_)
    refine bz_iload_n dX2_plugPower_46 rfl ?_
    refine bz_bipush dX2_plugPower_47 kc_bipush_6 ?_
    refine bz_icmp_gtN (tgt := 85) dX2_plugPower_49 rfl (by omega) (by omega) (fun q => absurd q (by omega)) (fun _ => ?_)
    refine bz_aload_n dX2_plugPower_52 rfl ?_
    refine bz_aload_n dX2_plugPower_53 rfl ?_
    refine bz_getf fl_X2_11 dX2_plugPower_54 rfl rfl (by omega) ?_
    refine bz_iload_n dX2_plugPower_57 rfl ?_
    refine bz_aaload dX2_plugPower_58 rfl (by omega) (by omega) ?_
    refine bz_aload_n dX2_plugPower_59 rfl ?_
    refine bz_getf fl_X2_16 dX2_plugPower_60 rfl rfl (by omega) ?_
    refine bz_aload_n dX2_plugPower_63 rfl ?_
    refine bz_getf fl_X2_20 dX2_plugPower_64 rfl rfl (by omega) ?_
    refine bz_cV3U (z := 1) mv_X2_multiply mi_X2_multiply lk_X2_86 dX2_plugPower_67 (by exact hV) (by omega) rfl (by omega) rfl rfl rfl (Nat.le_of_ble_eq_true rfl) (Nat.le_of_ble_eq_true rfl) ?_
    refine bz_aload_n dX2_plugPower_70 rfl ?_
    refine bz_getf fl_X2_20 dX2_plugPower_71 rfl rfl (by omega) ?_
    refine bz_iconst dX2_plugPower_74 kc_iconst_0 ?_
    refine bz_aload_n dX2_plugPower_75 rfl ?_
    refine bz_getf fl_X2_16 dX2_plugPower_76 rfl rfl (by omega) ?_
    refine bz_iconst dX2_plugPower_79 kc_iconst_0 ?_
    refine bz_bipush dX2_plugPower_80 kc_bipush_30 ?_
    refine bz_copy lk_X2_90 wac_n wac_s wi_java_lang_System (by omega) dX2_plugPower_82 rfl rfl (by omega) (by omega) (Nat.le_of_ble_eq_true rfl) ?_
    first | refine bz_iinc2N dX2_plugPower_85 (by decide) rfl ?_ | refine bz_iinc2 dX2_plugPower_85 rfl (by decide) rfl ?_
    refine bz_goto (tgt := 19) dX2_plugPower_88 rfl ?_
    exact hV2
theorem t_plugPower {c : Nat} {St : Nat → Nat → Int64} (hc : c < 30) (hT : pz_T σ.2.1) (hSt : ∀ k, k < 7 → ∀ j, j < 30 → σ.1 (14 + k) j = St k j) :
    ∃ σ2, bz_V l ad K 73 mX2_plugPower 4 none σ2 0 [some (.ref (ad 12)), some (.int (nI c)), none, none] [] σ ∧ bz_pw σ σ2 ∧ ∀ j, j < 30 → σ2.1 21 j = wk_pp St c (xt_len c) j := by
  obtain ⟨σ2, hV2, hpw, hr⟩ := t_pp_loop (l := l) (ad := ad) (K := K) (St := St) hc (xt_len c) 0 (bz_upJ (bz_setJ σ 21 (bz_upto (σ.1 21) (fun _ => 0) 30)) 21 0 720) none (Nat.zero_add _) (by exact hT)
    (fun k hk j hj => by rw [bz_upJ_set, bz_setJ_ne (by omega)]; exact hSt k hk j hj)
    (fun j hj => by
      rw [bz_upJ_set, bz_setJ_at, wk_pp]
      unfold vp_updL
      by_cases e : j = 0
      · simp [e]
      · simp [e, bz_upto, hj])
  refine ⟨σ2, ?_, bz_pw_tr2 hpw ⟨rfl, fun j q1 q2 => by rw [bz_upJ_set, bz_setJ_ne q1]⟩, hr⟩
  refine bz_aload_n dX2_plugPower_0 rfl ?_
  refine bz_getf fl_X2_16 dX2_plugPower_1 rfl rfl (by omega) ?_
  refine bz_lconst dX2_plugPower_4 kc_lconst_0 ?_
  refine bz_cS2U (z := 2) mv_J7_fill_d0a16 ws_J7_fill_d0a16 lk_X2_27 dX2_plugPower_5 (by exact t_fill rfl (by omega)) (by omega) rfl (Nat.le_of_ble_eq_true rfl) (Nat.le_of_ble_eq_true rfl) ?_
  refine bz_aload_n dX2_plugPower_8 rfl ?_
  refine bz_getf fl_X2_16 dX2_plugPower_9 rfl rfl (by omega) ?_
  refine bz_iconst dX2_plugPower_12 kc_iconst_0 ?_
  refine bz_ldc2 kl_X2_59 dX2_plugPower_13 ?_
  refine bz_lastore dX2_plugPower_16 rfl (by omega) (by omega) ?_
  refine bz_iconst dX2_plugPower_17 kc_iconst_0 ?_
  refine bz_ist2 dX2_plugPower_18 (by decide) rfl ?_
  exact hV2
end WM
end
section
/-! Work: plugWith, valueAt -/
/-- the rows that hold the sum with powers in the variables' place, those before k done -/
def wk_sts (σ : bz_S) (k2 k : Nat) : bz_S := (fun a => if 15 ≤ a ∧ a < 14 + k then wk_st (bz_upto (σ.1 a) (fun _ => 0) 30) (σ.1 k2) (a - 14) 30 else σ.1 a, σ.2)
theorem wk_sts_1 (σ : bz_S) (k2 : Nat) : wk_sts σ k2 1 = σ := by
  unfold wk_sts
  have : (fun a => if 15 ≤ a ∧ a < 14 + 1 then wk_st (bz_upto (σ.1 a) (fun _ => 0) 30) (σ.1 k2) (a - 14) 30 else σ.1 a) = σ.1 := by
    funext a
    rw [if_neg (by omega)]
  rw [this]
theorem wk_sts_s {σ : bz_S} {k2 k : Nat} (hk : 1 ≤ k) (h2 : k2 < 14 ∨ 20 < k2) (hk7 : k < 7) : bz_setJ (wk_sts σ k2 k) (14 + k) (wk_st (bz_upto ((wk_sts σ k2 k).1 (14 + k)) (fun _ => 0) 30) ((wk_sts σ k2 k).1 k2) k 30) = wk_sts σ k2 (k + 1) := by
  have e1 : (wk_sts σ k2 k).1 (14 + k) = σ.1 (14 + k) := by
    show (if _ then _ else _) = _
    rw [if_neg (by omega)]
  have e2 : (wk_sts σ k2 k).1 k2 = σ.1 k2 := by
    show (if _ then _ else _) = _
    rw [if_neg (by omega)]
  rw [e1, e2]
  unfold bz_setJ wk_sts
  congr 1
  funext a
  by_cases h : a = 14 + k
  · subst h
    rw [if_pos rfl, if_pos (by omega), Nat.add_sub_cancel_left]
  · rw [if_neg h]
    show (if 15 ≤ a ∧ a < 14 + k then _ else _) = _
    by_cases q : 15 ≤ a ∧ a < 14 + k
    · rw [if_pos q, if_pos (by omega)]
    · rw [if_neg q, if_neg (by omega)]
section WN
variable {l : Launch} {ad : Nat → Nat} {K : bz_K} {σ σ' : bz_S} {k1 k2 k3 : Nat} {r : Option Value}
theorem t_pl_1 (h2 : bz_sh k2 = (1, 30, 0, [])) (hk2 : k2 < 73) (h2n : k2 < 14 ∨ 20 < k2) (hT : pz_T σ.2.1) (k : bz_V l ad K 73 mX2_plugWith 5 r σ' 30 [some (.ref (ad 12)), some (.ref (ad k1)), some (.ref (ad k2)), some (.ref (ad k3)), some (.int (nI 7)), none] [] (wk_sts σ k2 7)) :
    ∀ (m i : Nat), i + m = 7 → 1 ≤ i → bz_V l ad K 73 mX2_plugWith 5 r σ' 3 [some (.ref (ad 12)), some (.ref (ad k1)), some (.ref (ad k2)), some (.ref (ad k3)), some (.int (nI i)), none] [] (wk_sts σ k2 i) := by
  intro m
  induction m with
  | zero =>
    intro i hi h1
    obtain rfl : i = 7 := by omega
    refine bz_iload dX2_plugWith_3 rfl ?_
    refine bz_bipush dX2_plugWith_5 kc_bipush_6 ?_
    refine bz_icmp_gtN (tgt := 30) dX2_plugWith_7 rfl (by omega) (by omega) (fun _ => ?_) (fun q => absurd q (by omega))
    exact k
  | succ m ih =>
    intro i hi h1
    have h14 := bz_sh14 i (by omega)
    refine bz_iload dX2_plugWith_3 rfl ?_
    refine bz_bipush dX2_plugWith_5 kc_bipush_6 ?_
    refine bz_icmp_gtN (tgt := 30) dX2_plugWith_7 rfl (by omega) (by omega) (fun q => absurd q (by omega)) (fun _ => ?_)
    refine bz_aload_n dX2_plugWith_10 rfl ?_
    refine bz_aload_n dX2_plugWith_11 rfl ?_
    refine bz_iload dX2_plugWith_12 rfl ?_
    refine bz_aload_n dX2_plugWith_14 rfl ?_
    refine bz_getf fl_X2_11 dX2_plugWith_15 rfl rfl (by omega) ?_
    refine bz_iload dX2_plugWith_18 rfl ?_
    refine bz_aaload dX2_plugWith_20 rfl (by omega) (by omega) ?_
    refine bz_cV3U (z := 2) mv_X2_stretch mi_X2_stretch lk_X2_72 dX2_plugWith_21 (by exact t_stretch (by omega) h1 h2 h14 hk2 (by omega) (by omega) (by exact hT)) (by omega) rfl (by omega) rfl rfl rfl (Nat.le_of_ble_eq_true rfl) (Nat.le_of_ble_eq_true rfl) ?_
    first | refine bz_iinc4N dX2_plugWith_24 (by decide) rfl ?_ | refine bz_iinc4 dX2_plugWith_24 rfl (by decide) rfl ?_
    refine bz_goto (tgt := 3) dX2_plugWith_27 rfl ?_
    refine bz_st (wk_sts_s h1 h2n (by omega)) ?_
    exact ih (i + 1) (by omega) (by omega)
theorem t_pl_in {c : Nat} (hc : c < 30) (h1 : bz_sh k1 = (1, 30, 0, [])) (h3 : bz_sh k3 = (1, 30, 0, [])) (hk1 : k1 < 73) (hk3 : k3 < 73) (hn1 : k1 ≠ k3) (hn3 : k3 ≠ 21) {F : Nat → Int64} (hF : ∀ d, F d = σ.1 k3 d + σ.1 k1 c * σ.1 21 d)
    (k : bz_V l ad K 73 mX2_plugWith 5 r σ' 95 [some (.ref (ad 12)), some (.ref (ad k1)), some (.ref (ad k2)), some (.ref (ad k3)), some (.int (nI c)), some (.int (nI 30))] [] (bz_setJ σ k3 (bz_upto (σ.1 k3) F 30))) :
    ∀ (m i : Nat), i + m = 30 → bz_V l ad K 73 mX2_plugWith 5 r σ' 63 [some (.ref (ad 12)), some (.ref (ad k1)), some (.ref (ad k2)), some (.ref (ad k3)), some (.int (nI c)), some (.int (nI i))] [] (bz_setJ σ k3 (bz_upto (σ.1 k3) F i)) := by
  intro m
  induction m with
  | zero =>
    intro i hi
    obtain rfl : i = 30 := by omega
    refine bz_iload dX2_plugWith_63 rfl ?_
    refine bz_bipush dX2_plugWith_65 kc_bipush_30 ?_
    refine bz_icmp_geN (tgt := 95) dX2_plugWith_67 rfl (by omega) (by omega) (fun _ => ?_) (fun q => absurd q (by omega))
    exact k
  | succ m ih =>
    intro i hi
    refine bz_iload dX2_plugWith_63 rfl ?_
    refine bz_bipush dX2_plugWith_65 kc_bipush_30 ?_
    refine bz_icmp_geN (tgt := 95) dX2_plugWith_67 rfl (by omega) (by omega) (fun q => absurd q (by omega)) (fun _ => ?_)
    refine bz_aload_n dX2_plugWith_70 rfl ?_
    refine bz_iload dX2_plugWith_71 rfl ?_
    refine bz_dup2 dX2_plugWith_73 rfl rfl ?_
    refine bz_laload dX2_plugWith_74 h3 (by omega) (by omega) ?_
    refine bz_topl (y := σ.1 k3 i) (by rw [bz_setJ_at, bz_upto_ge (Nat.le_refl i)]) ?_
    refine bz_aload_n dX2_plugWith_75 rfl ?_
    refine bz_iload dX2_plugWith_76 rfl ?_
    refine bz_laload dX2_plugWith_78 h1 (by omega) (by omega) ?_
    refine bz_topl (y := σ.1 k1 c) (by rw [bz_setJ_ne hn1]) ?_
    refine bz_aload_n dX2_plugWith_79 rfl ?_
    refine bz_getf fl_X2_16 dX2_plugWith_80 rfl rfl (by omega) ?_
    refine bz_iload dX2_plugWith_83 rfl ?_
    refine bz_laload dX2_plugWith_85 rfl (by omega) (by omega) ?_
    refine bz_topl (y := σ.1 21 i) (by rw [bz_setJ_ne (fun q => hn3 q.symm)]) ?_
    refine bz_lmul dX2_plugWith_86 ?_
    refine bz_ladd dX2_plugWith_87 ?_
    refine bz_lastore dX2_plugWith_88 h3 (by omega) (by omega) ?_
    first | refine bz_iinc5N dX2_plugWith_89 (by decide) rfl ?_ | refine bz_iinc5 dX2_plugWith_89 rfl (by decide) rfl ?_
    refine bz_goto (tgt := 63) dX2_plugWith_92 rfl ?_
    refine bz_st (by rw [bz_upJ_set, bz_upto_s (hF i).symm]) ?_
    exact ih (i + 1) (by omega)
/-- what plugging changes: rows 21, 22 and k3 -/
def bz_pl (σ σ2 : bz_S) (k3 : Nat) : Prop := σ2.2 = σ.2 ∧ ∀ j, j ≠ 21 → j ≠ 22 → j ≠ k3 → σ2.1 j = σ.1 j
theorem bz_pl_tr {a b c : bz_S} {k3 : Nat} (h2 : bz_pl b c k3) (h1 : bz_pl a b k3) : bz_pl a c k3 := ⟨h2.1.trans h1.1, fun j q1 q2 q3 => (h2.2 j q1 q2 q3).trans (h1.2 j q1 q2 q3)⟩
theorem t_pl_2 {St : Nat → Nat → Int64} {I T : Nat → Int64} (h1 : bz_sh k1 = (1, 30, 0, [])) (h3 : bz_sh k3 = (1, 30, 0, [])) (hk1 : k1 < 73) (hk3 : k3 < 73) (hn1 : k1 ≠ k3) (h11 : k1 ≠ 21 ∧ k1 ≠ 22) (h33 : k3 < 14 ∨ 22 < k3) :
    ∀ (m c : Nat) (σ : bz_S) (x5 : Option Value), c + m = 30 → pz_T σ.2.1 → (∀ k, k < 7 → ∀ j, j < 30 → σ.1 (14 + k) j = St k j) → (∀ j, j < 30 → σ.1 k1 j = I j) →
      (∀ j, j < 30 → σ.1 k3 j + zsum (fun c => I c * wk_pp St c (xt_len c) j) c m = T j) →
      ∃ σ2, bz_V l ad K 73 mX2_plugWith 5 none σ2 38 [some (.ref (ad 12)), some (.ref (ad k1)), some (.ref (ad k2)), some (.ref (ad k3)), some (.int (nI c)), x5] [] σ ∧ bz_pl σ σ2 k3 ∧ ∀ j, j < 30 → σ2.1 k3 j = T j / 720 := by
  intro m
  induction m with
  | zero =>
    intro c σ x5 hc hT hSt hI hTT
    obtain rfl : c = 30 := by omega
    refine ⟨bz_setJ σ k3 (bz_upto (σ.1 k3) (fun j => σ.1 k3 j / 720) 30), ?_, ⟨rfl, fun j _ _ q => bz_setJ_ne q⟩, fun j hj => by rw [bz_setJ_at, bz_upto_lt hj, zsum_end (hTT j hj)]⟩
    refine bz_iload dX2_plugWith_38 rfl ?_
    refine bz_bipush dX2_plugWith_40 kc_bipush_30 ?_
    refine bz_icmp_geN (tgt := 101) dX2_plugWith_42 rfl (by omega) (by omega) (fun _ => ?_) (fun q => absurd q (by omega))
    refine bz_aload_n dX2_plugWith_101 rfl ?_
    refine bz_cS1U (z := 1) mv_X2_divideByCommon ws_X2_divideByCommon lk_X2_37 dX2_plugWith_102 (by exact t_div h3 hk3) (by omega) rfl (Nat.le_of_ble_eq_true rfl) (Nat.le_of_ble_eq_true rfl) ?_
    refine bz_vret dX2_plugWith_105 rfl rfl
  | succ m ih =>
    intro c σ x5 hc hT hSt hI hTT
    have h30 : c < 30 := by omega
    by_cases h0 : I c = 0
    · obtain ⟨σ2, hV, hpl, hr⟩ := ih (c + 1) σ x5 (by omega) hT hSt hI (fun j hj => by
        have := hTT j hj
        rw [zsum, h0, Int64.zero_mul, Int64.zero_add] at this
        exact this)
      refine ⟨σ2, ?_, hpl, hr⟩
      refine bz_iload dX2_plugWith_38 rfl ?_
      refine bz_bipush dX2_plugWith_40 kc_bipush_30 ?_
      refine bz_icmp_geN (tgt := 101) dX2_plugWith_42 rfl (by omega) (by omega) (fun q => absurd q (by omega)) (fun _ => ?_)
      refine bz_aload_n dX2_plugWith_45 rfl ?_
      refine bz_iload dX2_plugWith_46 rfl ?_
      refine bz_laload dX2_plugWith_48 h1 (by omega) h30 ?_
      refine bz_topl (y := 0) ((hI c h30).trans h0) ?_
      refine bz_lconst dX2_plugWith_49 kc_lconst_0 ?_
      refine bz_lcmp dX2_plugWith_50 ?_
      refine bz_if_eq (tgt := 95) dX2_plugWith_51 rfl (fun _ => ?_) (fun q => absurd (bz_cmp0.mpr rfl) q)
      first | refine bz_iinc4N dX2_plugWith_95 (by decide) rfl ?_ | refine bz_iinc4 dX2_plugWith_95 rfl (by decide) rfl ?_
      refine bz_goto (tgt := 38) dX2_plugWith_98 rfl ?_
      exact hV
    · obtain ⟨σa, hVa, hpa, hra⟩ := t_plugPower (l := l) (ad := ad) (K := K) (St := St) h30 hT hSt
      have ek1 : σa.1 k1 = σ.1 k1 := hpa.2 k1 h11.1 h11.2
      have ek3 : σa.1 k3 = σ.1 k3 := hpa.2 k3 (by omega) (by omega)
      obtain ⟨σ2, hV, hpl, hr⟩ := ih (c + 1) (bz_setJ σa k3 (bz_upto (σa.1 k3) (fun d => σa.1 k3 d + σa.1 k1 c * σa.1 21 d) 30)) (some (.int (nI 30))) (by omega) (by show pz_T σa.2.1; rw [hpa.1]; exact hT)
        (fun k hk j hj => by rw [bz_setJ_ne (by omega), hpa.2 _ (by omega) (by omega)]; exact hSt k hk j hj)
        (fun j hj => by rw [bz_setJ_ne hn1, ek1]; exact hI j hj)
        (fun j hj => by
          rw [bz_setJ_at, bz_upto_lt hj, ek3, ek1, hI c h30, hra j hj]
          have h9 := zsum_step (hTT j hj)
          exact h9)
      refine ⟨σ2, ?_, bz_pl_tr hpl ⟨hpa.1, fun j q1 q2 q3 => by rw [bz_setJ_ne q3, hpa.2 j q1 q2]⟩, hr⟩
      refine bz_iload dX2_plugWith_38 rfl ?_
      refine bz_bipush dX2_plugWith_40 kc_bipush_30 ?_
      refine bz_icmp_geN (tgt := 101) dX2_plugWith_42 rfl (by omega) (by omega) (fun q => absurd q (by omega)) (fun _ => ?_)
      refine bz_aload_n dX2_plugWith_45 rfl ?_
      refine bz_iload dX2_plugWith_46 rfl ?_
      refine bz_laload dX2_plugWith_48 h1 (by omega) h30 ?_
      refine bz_lconst dX2_plugWith_49 kc_lconst_0 ?_
      refine bz_lcmp dX2_plugWith_50 ?_
      refine bz_if_eq (tgt := 95) dX2_plugWith_51 rfl (fun q => absurd q (fun q => h0 ((hI c h30).symm.trans (bz_cmp0.mp q)))) (fun _ => ?_)
      refine bz_aload_n dX2_plugWith_54 rfl ?_
      refine bz_iload dX2_plugWith_55 rfl ?_
      refine bz_cV1U (z := 2) mv_X2_plugPower mi_X2_plugPower lk_X2_76 dX2_plugWith_57 (by exact hVa) (by omega) rfl (by omega) rfl rfl rfl (Nat.le_of_ble_eq_true rfl) (Nat.le_of_ble_eq_true rfl) ?_
      refine bz_iconst dX2_plugWith_60 kc_iconst_0 ?_
      refine bz_ist5 dX2_plugWith_61 (by decide) rfl ?_
      refine bz_st (by rw [bz_setJ_id (bz_upto_0 _ (fun d => σa.1 k3 d + σa.1 k1 c * σa.1 21 d))]) (t_pl_in h30 h1 h3 hk1 hk3 hn1 (by omega) (fun d => rfl) ?_ 30 0 rfl)
      first | refine bz_iinc4N dX2_plugWith_95 (by decide) rfl ?_ | refine bz_iinc4 dX2_plugWith_95 rfl (by decide) rfl ?_
      refine bz_goto (tgt := 38) dX2_plugWith_98 rfl ?_
      exact hV
def wk_plug (I x : Nat → Int64) (j : Nat) : Int64 := zsum (fun c => I c * wk_pp (wk_str x) c (xt_len c) j) 0 30
/-- what plugWith changes: rows 14 to 22 and k3 -/
def bz_pq (σ σ2 : bz_S) (k3 : Nat) : Prop := σ2.2 = σ.2 ∧ ∀ j, j < 14 ∨ 22 < j → j ≠ k3 → σ2.1 j = σ.1 j
theorem wk_pp_congr {St St' : Nat → Nat → Int64} {c : Nat} (hc : c < 30) (h : ∀ k, 1 ≤ k → k < 7 → ∀ j, j < 30 → St k j = St' k j) (hp : ∀ i, i < xt_len c → 1 ≤ xp_part c i) : ∀ i, i ≤ xt_len c → ∀ j, wk_pp St c i j = wk_pp St' c i j := by
  have hl6 := xt_len6 c hc
  intro i
  induction i with
  | zero => intro _ j; rfl
  | succ i ih =>
    intro hi j
    have hp6 := xt_part6 c hc i (by omega)
    rw [wk_pp, wk_pp]
    exact congrArg (fun z => z / 720) (wk_mul_congr (fun q hq => h _ (hp i (by omega)) (by omega) q hq) (fun q _ => ih (by omega) q) j)
theorem t_plugWith (h1 : bz_sh k1 = (1, 30, 0, [])) (h2 : bz_sh k2 = (1, 30, 0, [])) (h3 : bz_sh k3 = (1, 30, 0, [])) (hk1 : k1 < 73) (hk2 : k2 < 73) (hk3 : k3 < 73) (hn1 : k1 ≠ k3) (hn2 : k2 ≠ k3) (h11 : k1 < 14 ∨ 22 < k1) (h22 : k2 < 14 ∨ 22 < k2) (h33 : k3 < 14 ∨ 22 < k3) (hT : pz_T σ.2.1) :
    ∃ σ2, bz_V l ad K 73 mX2_plugWith 5 none σ2 0 [some (.ref (ad 12)), some (.ref (ad k1)), some (.ref (ad k2)), some (.ref (ad k3)), none, none] [] σ ∧ bz_pq σ σ2 k3 ∧ ∀ j, j < 30 → σ2.1 k3 j = wk_plug (σ.1 k1) (σ.1 k2) j / 720 := by
  have es : ∀ j, j < 14 ∨ 22 < j → (wk_sts σ k2 7).1 j = σ.1 j := fun j hj => by
    show (if _ then _ else _) = _
    rw [if_neg (by omega)]
  have er : ∀ k, 1 ≤ k → k < 7 → ∀ j, j < 30 → (wk_sts σ k2 7).1 (14 + k) j = wk_str (σ.1 k2) k j := fun k h1 h2 j hj => by
    show (if _ then _ else _ : Nat → Int64) j = _
    rw [if_pos (by omega), Nat.add_sub_cancel_left]
    unfold wk_st wk_str
    rw [bz_upto_lt hj, Int64.zero_add]
  obtain ⟨σ2, hV, hpl, hr⟩ := t_pl_2 (l := l) (ad := ad) (K := K) (k1 := k1) (k2 := k2) (k3 := k3) (St := fun k j => (wk_sts σ k2 7).1 (14 + k) j) (I := σ.1 k1) (T := wk_plug (σ.1 k1) (σ.1 k2)) h1 h3 hk1 hk3 hn1 (by omega) (by omega) 30 0 (bz_setJ (wk_sts σ k2 7) k3 (bz_upto ((wk_sts σ k2 7).1 k3) (fun _ => 0) 30)) none rfl (by exact hT)
    (fun k hk j hj => by rw [bz_setJ_ne (by omega)]) (fun j hj => by rw [bz_setJ_ne hn1, es k1 h11])
    (fun j hj => by
      rw [bz_setJ_at, bz_upto_lt hj, Int64.zero_add]
      unfold wk_plug
      refine zsum_congr _ _ (fun c _ hc => ?_)
      rw [wk_pp_congr (St' := wk_str (σ.1 k2)) (by omega) er (xt_part1 c (by omega)) (xt_len c) (Nat.le_refl _) j])
  refine ⟨σ2, ?_, ⟨hpl.1, fun j q1 q2 => by rw [hpl.2 j (by omega) (by omega) q2, bz_setJ_ne q2, es j q1]⟩, hr⟩
  refine bz_iconst dX2_plugWith_0 kc_iconst_1 ?_
  refine bz_ist4 dX2_plugWith_1 (by decide) rfl ?_
  refine bz_st (wk_sts_1 σ k2).symm (t_pl_1 h2 hk2 (by omega) hT ?_ 6 1 rfl (Nat.le_refl 1))
  refine bz_aload_n dX2_plugWith_30 rfl ?_
  refine bz_lconst dX2_plugWith_31 kc_lconst_0 ?_
  refine bz_cS2U (z := 2) mv_J7_fill_d0a16 ws_J7_fill_d0a16 lk_X2_27 dX2_plugWith_32 (by exact t_fill h3 hk3) (by omega) rfl (Nat.le_of_ble_eq_true rfl) (Nat.le_of_ble_eq_true rfl) ?_
  refine bz_iconst dX2_plugWith_35 kc_iconst_0 ?_
  refine bz_ist4 dX2_plugWith_36 (by decide) rfl ?_
  exact hV
/-- one product of powers in a value -/
def wk_v (w : Nat → Int64) (x y z : Int64) (i j k : Nat) : Int64 := w (xt_i3 i j k) * zpow x i * zpow y j * zpow z k
def wk_v2 (w : Nat → Int64) (x y z : Int64) (i j : Nat) : Int64 := zsum (wk_v w x y z i j) 0 (7 - i - j)
def wk_v1 (w : Nat → Int64) (x y z : Int64) (i : Nat) : Int64 := zsum (wk_v2 w x y z i) 0 (7 - i)
def wk_val (w : Nat → Int64) (x y z : Int64) : Int64 := zsum (wk_v1 w x y z) 0 7
theorem t_v3 {x y z T : Int64} {i j : Nat} (h1 : bz_sh k1 = (1, 30, 0, [])) (hk1 : k1 < 73) (hT : pz_T σ.2.1) (hij : i + j ≤ 6)
    (kk : ∀ x13 x14, bz_V l ad K 73 mX2_valueAt 2 r σ' 135 [some (.ref (ad 12)), some (.ref (ad k1)), some (.long x), none, some (.long y), none, some (.long z), none, some (.long T), none, some (.int (nI i)), some (.int (nI j)), some (.int (nI (7 - i - j))), x13, x14] [] σ) :
    ∀ (m k : Nat) (acc : Int64) (x13 x14 : Option Value), k + m = 7 - i - j → acc + zsum (wk_v (σ.1 k1) x y z i j) k m = T →
      bz_V l ad K 73 mX2_valueAt 2 r σ' 29 [some (.ref (ad 12)), some (.ref (ad k1)), some (.long x), none, some (.long y), none, some (.long z), none, some (.long acc), none, some (.int (nI i)), some (.int (nI j)), some (.int (nI k)), x13, x14] [] σ := by
  intro m
  induction m with
  | zero =>
    intro k acc x13 x14 hk hs
    obtain rfl : k = 7 - i - j := by omega
    obtain rfl := zsum_end hs
    refine bz_iload dX2_valueAt_29 rfl ?_
    refine bz_iload dX2_valueAt_31 rfl ?_
    first | refine bz_iaddN dX2_valueAt_33 ?_ | refine bz_iadd dX2_valueAt_33 ?_
    refine bz_iload dX2_valueAt_34 rfl ?_
    first | refine bz_iaddN dX2_valueAt_36 ?_ | refine bz_iadd dX2_valueAt_36 ?_
    refine bz_bipush dX2_valueAt_37 kc_bipush_6 ?_
    refine bz_icmp_gtN (tgt := 135) dX2_valueAt_39 rfl (by omega) (by omega) (fun _ => ?_) (fun q => absurd q (by omega))
    exact kk x13 x14
  | succ m ih =>
    intro k acc x13 x14 hk hs
    have hi3 := xt_i3_ok (i := i) (j := j) (k := k) (by omega)
    have hl3 := hi3.2.1
    refine bz_iload dX2_valueAt_29 rfl ?_
    refine bz_iload dX2_valueAt_31 rfl ?_
    first | refine bz_iaddN dX2_valueAt_33 ?_ | refine bz_iadd dX2_valueAt_33 ?_
    refine bz_iload dX2_valueAt_34 rfl ?_
    first | refine bz_iaddN dX2_valueAt_36 ?_ | refine bz_iadd dX2_valueAt_36 ?_
    refine bz_bipush dX2_valueAt_37 kc_bipush_6 ?_
    refine bz_icmp_gtN (tgt := 135) dX2_valueAt_39 rfl (by omega) (by omega) (fun q => absurd q (by omega)) (fun _ => ?_)
    refine bz_iload dX2_valueAt_42 rfl ?_
    refine bz_cSN1I (z := 0) mv_X1_markOf ws_X1_markOf lk_X2_99 dX2_valueAt_44 (by exact t_markOf (by omega)) (by omega) rfl (Nat.le_of_ble_eq_true rfl) (Nat.le_of_ble_eq_true rfl) ?_
    refine bz_iload dX2_valueAt_47 rfl ?_
    refine bz_cSN1I (z := 0) mv_X1_markOf ws_X1_markOf lk_X2_99 dX2_valueAt_49 (by exact t_markOf (by omega)) (by omega) rfl (Nat.le_of_ble_eq_true rfl) (Nat.le_of_ble_eq_true rfl) ?_
    first | refine bz_iaddN dX2_valueAt_52 ?_ | refine bz_iadd dX2_valueAt_52 ?_
    refine bz_iload dX2_valueAt_53 rfl ?_
    refine bz_cSN1I (z := 0) mv_X1_markOf ws_X1_markOf lk_X2_99 dX2_valueAt_55 (by exact t_markOf (by omega)) (by omega) rfl (Nat.le_of_ble_eq_true rfl) (Nat.le_of_ble_eq_true rfl) ?_
    first | refine bz_iaddN dX2_valueAt_58 ?_ | refine bz_iadd dX2_valueAt_58 ?_
    refine bz_ist13 dX2_valueAt_59 (by decide) rfl ?_
    refine bz_aload_n dX2_valueAt_61 rfl ?_
    refine bz_getf fl_X2_23 dX2_valueAt_62 rfl rfl (by omega) ?_
    refine bz_iload dX2_valueAt_65 rfl ?_
    refine bz_iload dX2_valueAt_67 rfl ?_
    refine bz_iload dX2_valueAt_69 rfl ?_
    first | refine bz_iaddN dX2_valueAt_71 ?_ | refine bz_iadd dX2_valueAt_71 ?_
    refine bz_iload dX2_valueAt_72 rfl ?_
    first | refine bz_iaddN dX2_valueAt_74 ?_ | refine bz_iadd dX2_valueAt_74 ?_
    refine bz_cVN2I (z := 2) mv_X1_numberOf mi_X1_numberOf lk_X2_102 dX2_valueAt_75 (by exact t_numberOf (by omega) hi3.2.2 (by omega) (by exact hT.2.2.1)) (by omega) rfl (by omega) rfl rfl rfl (Nat.le_of_ble_eq_true rfl) (Nat.le_of_ble_eq_true rfl) ?_
    refine bz_topi (y := nI (xt_i3 i j k)) (by rw [hi3.1]; rfl) ?_
    refine bz_ist14 dX2_valueAt_78 (by decide) rfl ?_
    refine bz_iload dX2_valueAt_80 rfl ?_
    refine bz_cSN1I (z := 0) mv_X3_isPartition ws_X3_isPartition lk_X2_55 dX2_valueAt_82 (by exact t_isPart hl3) (by omega) rfl (Nat.le_of_ble_eq_true rfl) (Nat.le_of_ble_eq_true rfl) ?_
    refine bz_if_eq (tgt := 129) dX2_valueAt_85 rfl (fun q => absurd q (by decide)) (fun _ => ?_)
    refine bz_aload_n dX2_valueAt_88 rfl ?_
    refine bz_iload dX2_valueAt_89 rfl ?_
    refine bz_laload dX2_valueAt_91 h1 (by omega) hl3 ?_
    refine bz_lconst dX2_valueAt_92 kc_lconst_0 ?_
    refine bz_lcmp dX2_valueAt_93 ?_
    have hs2 := zsum_step hs
    refine bz_if_eq (tgt := 129) dX2_valueAt_94 rfl (fun h => ?_) (fun h => ?_)
    · first | refine bz_iinc12N dX2_valueAt_129 (by decide) rfl ?_ | refine bz_iinc12 dX2_valueAt_129 rfl (by decide) rfl ?_
      refine bz_goto (tgt := 29) dX2_valueAt_132 rfl ?_
      refine ih (k + 1) acc _ _ (by omega) ?_
      rw [show wk_v (σ.1 k1) x y z i j k = 0 by unfold wk_v; rw [bz_cmp0.mp h]; simp, Int64.add_zero] at hs2
      exact hs2
    · refine bz_lload dX2_valueAt_97 rfl ?_
      refine bz_aload_n dX2_valueAt_99 rfl ?_
      refine bz_iload dX2_valueAt_100 rfl ?_
      refine bz_laload dX2_valueAt_102 h1 (by omega) hl3 ?_
      refine bz_lload_n dX2_valueAt_103 rfl ?_
      refine bz_iload dX2_valueAt_104 rfl ?_
      refine bz_cS2L (z := 3) mv_X2_powerOf ws_X2_powerOf lk_X2_105 dX2_valueAt_106 (by exact t_powerOf (by omega)) (by omega) rfl (Nat.le_of_ble_eq_true rfl) (Nat.le_of_ble_eq_true rfl) ?_
      refine bz_lmul dX2_valueAt_109 ?_
      refine bz_lload dX2_valueAt_110 rfl ?_
      refine bz_iload dX2_valueAt_112 rfl ?_
      refine bz_cS2L (z := 3) mv_X2_powerOf ws_X2_powerOf lk_X2_105 dX2_valueAt_114 (by exact t_powerOf (by omega)) (by omega) rfl (Nat.le_of_ble_eq_true rfl) (Nat.le_of_ble_eq_true rfl) ?_
      refine bz_lmul dX2_valueAt_117 ?_
      refine bz_lload dX2_valueAt_118 rfl ?_
      refine bz_iload dX2_valueAt_120 rfl ?_
      refine bz_cS2L (z := 3) mv_X2_powerOf ws_X2_powerOf lk_X2_105 dX2_valueAt_122 (by exact t_powerOf (by omega)) (by omega) rfl (Nat.le_of_ble_eq_true rfl) (Nat.le_of_ble_eq_true rfl) ?_
      refine bz_lmul dX2_valueAt_125 ?_
      refine bz_ladd dX2_valueAt_126 ?_
      refine bz_lst8 dX2_valueAt_127 (by decide) rfl ?_
      first | refine bz_iinc12N dX2_valueAt_129 (by decide) rfl ?_ | refine bz_iinc12 dX2_valueAt_129 rfl (by decide) rfl ?_
      refine bz_goto (tgt := 29) dX2_valueAt_132 rfl ?_
      exact ih (k + 1) _ _ _ (by omega) hs2
theorem t_v2 {x y z T : Int64} {i : Nat} (h1 : bz_sh k1 = (1, 30, 0, [])) (hk1 : k1 < 73) (hT : pz_T σ.2.1) (hi : i ≤ 6)
    (kk : ∀ x12 x13 x14, bz_V l ad K 73 mX2_valueAt 2 r σ' 141 [some (.ref (ad 12)), some (.ref (ad k1)), some (.long x), none, some (.long y), none, some (.long z), none, some (.long T), none, some (.int (nI i)), some (.int (nI (7 - i))), x12, x13, x14] [] σ) :
    ∀ (m j : Nat) (acc : Int64) (x12 x13 x14 : Option Value), j + m = 7 - i → acc + zsum (wk_v2 (σ.1 k1) x y z i) j m = T →
      bz_V l ad K 73 mX2_valueAt 2 r σ' 16 [some (.ref (ad 12)), some (.ref (ad k1)), some (.long x), none, some (.long y), none, some (.long z), none, some (.long acc), none, some (.int (nI i)), some (.int (nI j)), x12, x13, x14] [] σ := by
  intro m
  induction m with
  | zero =>
    intro j acc x12 x13 x14 hj hs
    obtain rfl : j = 7 - i := by omega
    obtain rfl := zsum_end hs
    refine bz_iload dX2_valueAt_16 rfl ?_
    refine bz_iload dX2_valueAt_18 rfl ?_
    first | refine bz_iaddN dX2_valueAt_20 ?_ | refine bz_iadd dX2_valueAt_20 ?_
    refine bz_bipush dX2_valueAt_21 kc_bipush_6 ?_
    refine bz_icmp_gtN (tgt := 141) dX2_valueAt_23 rfl (by omega) (by omega) (fun _ => ?_) (fun q => absurd q (by omega))
    exact kk x12 x13 x14
  | succ m ih =>
    intro j acc x12 x13 x14 hj hs
    have hs2 := zsum_step hs
    refine bz_iload dX2_valueAt_16 rfl ?_
    refine bz_iload dX2_valueAt_18 rfl ?_
    first | refine bz_iaddN dX2_valueAt_20 ?_ | refine bz_iadd dX2_valueAt_20 ?_
    refine bz_bipush dX2_valueAt_21 kc_bipush_6 ?_
    refine bz_icmp_gtN (tgt := 141) dX2_valueAt_23 rfl (by omega) (by omega) (fun q => absurd q (by omega)) (fun _ => ?_)
    refine bz_iconst dX2_valueAt_26 kc_iconst_0 ?_
    refine bz_ist12 dX2_valueAt_27 (by decide) rfl ?_
    refine t_v3 (T := acc + wk_v2 (σ.1 k1) x y z i j) h1 hk1 hT (by omega) (fun x13 x14 => ?_) (7 - i - j) 0 acc x13 x14 (Nat.zero_add _) rfl
    first | refine bz_iinc11N dX2_valueAt_135 (by decide) rfl ?_ | refine bz_iinc11 dX2_valueAt_135 rfl (by decide) rfl ?_
    refine bz_goto (tgt := 16) dX2_valueAt_138 rfl ?_
    exact ih (j + 1) _ _ _ _ (by omega) hs2
theorem t_v1 {x y z T : Int64} (h1 : bz_sh k1 = (1, 30, 0, [])) (hk1 : k1 < 73) (hT : pz_T σ.2.1) :
    ∀ (m i : Nat) (acc : Int64) (x11 x12 x13 x14 : Option Value), i + m = 7 → acc + zsum (wk_v1 (σ.1 k1) x y z) i m = T →
      bz_V l ad K 73 mX2_valueAt 2 (some (.long T)) σ 6 [some (.ref (ad 12)), some (.ref (ad k1)), some (.long x), none, some (.long y), none, some (.long z), none, some (.long acc), none, some (.int (nI i)), x11, x12, x13, x14] [] σ := by
  intro m
  induction m with
  | zero =>
    intro i acc x11 x12 x13 x14 hi hs
    obtain rfl : i = 7 := by omega
    obtain rfl := zsum_end hs
    refine bz_iload dX2_valueAt_6 rfl ?_
    refine bz_bipush dX2_valueAt_8 kc_bipush_6 ?_
    refine bz_icmp_gtN (tgt := 147) dX2_valueAt_10 rfl (by omega) (by omega) (fun _ => ?_) (fun q => absurd q (by omega))
    refine bz_lload dX2_valueAt_147 rfl ?_
    refine bz_lret dX2_valueAt_149 rfl rfl rfl
  | succ m ih =>
    intro i acc x11 x12 x13 x14 hi hs
    have hs2 := zsum_step hs
    refine bz_iload dX2_valueAt_6 rfl ?_
    refine bz_bipush dX2_valueAt_8 kc_bipush_6 ?_
    refine bz_icmp_gtN (tgt := 147) dX2_valueAt_10 rfl (by omega) (by omega) (fun q => absurd q (by omega)) (fun _ => ?_)
    refine bz_iconst dX2_valueAt_13 kc_iconst_0 ?_
    refine bz_ist11 dX2_valueAt_14 (by decide) rfl ?_
    refine t_v2 (T := acc + wk_v1 (σ.1 k1) x y z i) h1 hk1 hT (by omega) (fun x12 x13 x14 => ?_) (7 - i) 0 acc x12 x13 x14 (Nat.zero_add _) rfl
    first | refine bz_iinc10N dX2_valueAt_141 (by decide) rfl ?_ | refine bz_iinc10 dX2_valueAt_141 rfl (by decide) rfl ?_
    refine bz_goto (tgt := 6) dX2_valueAt_144 rfl ?_
    exact ih (i + 1) _ _ _ _ _ (by omega) hs2
theorem t_valueAt {x y z : Int64} (h1 : bz_sh k1 = (1, 30, 0, [])) (hk1 : k1 < 73) (hT : pz_T σ.2.1) : bz_V l ad K 73 mX2_valueAt 2 (some (.long (wk_val (σ.1 k1) x y z))) σ 0 [some (.ref (ad 12)), some (.ref (ad k1)), some (.long x), none, some (.long y), none, some (.long z), none, none, none, none, none, none, none, none] [] σ := by
  refine bz_lconst dX2_valueAt_0 kc_lconst_0 ?_
  refine bz_lst8 dX2_valueAt_1 (by decide) rfl ?_
  refine bz_iconst dX2_valueAt_3 kc_iconst_0 ?_
  refine bz_ist10 dX2_valueAt_4 (by decide) rfl ?_
  exact t_v1 h1 hk1 hT 7 0 0 none none none none rfl (Int64.zero_add _)
end WN
end
