-- ===== PART A: goes FIRST, ahead of the names: the tables' words, and 'selects' of the private methods out of them =====
/-- a private method of a class that the tables say can be made, by its rows of tables_1 -/
def lw_okq (q : MethodName × Nat) : Prop := (q.1.cls ≠ "java/lang/invoke/MethodHandle" ∧ q.1.cls ≠ "java/lang/invoke/VarHandle") ∧ Cond.instantiable q.1.cls q.2 ∈ tables_1 ∧ Cond.privateMethod q.1 ∈ tables_1 ∧ Cond.instanceMethod q.1 ∈ tables_1
theorem lw_p0 : lw_okq (⟨"BasisMoves$Partitions", "measure", "(I)V"⟩, 8) := ⟨⟨by decide +kernel, by decide +kernel⟩, List.mem_of_getElem? (i := 18) (by decide +kernel), List.mem_of_getElem? (i := 24) (by decide +kernel), List.mem_of_getElem? (i := 25) (by decide +kernel)⟩
theorem lw_p1 : lw_okq (⟨"BasisMoves$Partitions", "partAt", "(II)I"⟩, 8) := ⟨⟨by decide +kernel, by decide +kernel⟩, List.mem_of_getElem? (i := 18) (by decide +kernel), List.mem_of_getElem? (i := 28) (by decide +kernel), List.mem_of_getElem? (i := 29) (by decide +kernel)⟩
theorem lw_p2 : lw_okq (⟨"BasisMoves$Partitions", "findConjugate", "(I)I"⟩, 8) := ⟨⟨by decide +kernel, by decide +kernel⟩, List.mem_of_getElem? (i := 18) (by decide +kernel), List.mem_of_getElem? (i := 43) (by decide +kernel), List.mem_of_getElem? (i := 44) (by decide +kernel)⟩
theorem lw_p3 : lw_okq (⟨"BasisMoves$Partitions", "numberOf", "(II)I"⟩, 8) := ⟨⟨by decide +kernel, by decide +kernel⟩, List.mem_of_getElem? (i := 18) (by decide +kernel), List.mem_of_getElem? (i := 47) (by decide +kernel), List.mem_of_getElem? (i := 48) (by decide +kernel)⟩
theorem lw_p4 : lw_okq (⟨"BasisMoves$Partitions", "fillColumn", "(I)V"⟩, 8) := ⟨⟨by decide +kernel, by decide +kernel⟩, List.mem_of_getElem? (i := 18) (by decide +kernel), List.mem_of_getElem? (i := 59) (by decide +kernel), List.mem_of_getElem? (i := 60) (by decide +kernel)⟩
theorem lw_p5 : lw_okq (⟨"BasisMoves$Partitions", "isRowStrip", "(II)Z"⟩, 8) := ⟨⟨by decide +kernel, by decide +kernel⟩, List.mem_of_getElem? (i := 18) (by decide +kernel), List.mem_of_getElem? (i := 63) (by decide +kernel), List.mem_of_getElem? (i := 64) (by decide +kernel)⟩
theorem lw_p6 : lw_okq (⟨"BasisMoves$Partitions", "kostkaOf", "(II)I"⟩, 8) := ⟨⟨by decide +kernel, by decide +kernel⟩, List.mem_of_getElem? (i := 18) (by decide +kernel), List.mem_of_getElem? (i := 67) (by decide +kernel), List.mem_of_getElem? (i := 68) (by decide +kernel)⟩
theorem lw_p7 : lw_okq (⟨"BasisMoves$Partitions", "rimSign", "(II)I"⟩, 8) := ⟨⟨by decide +kernel, by decide +kernel⟩, List.mem_of_getElem? (i := 18) (by decide +kernel), List.mem_of_getElem? (i := 71) (by decide +kernel), List.mem_of_getElem? (i := 72) (by decide +kernel)⟩
theorem lw_p8 : lw_okq (⟨"BasisMoves$Partitions", "characterOf", "(II)I"⟩, 8) := ⟨⟨by decide +kernel, by decide +kernel⟩, List.mem_of_getElem? (i := 18) (by decide +kernel), List.mem_of_getElem? (i := 78) (by decide +kernel), List.mem_of_getElem? (i := 79) (by decide +kernel)⟩
theorem lw_p9 : lw_okq (⟨"BasisMoves$Partitions", "isAbove", "(II)Z"⟩, 8) := ⟨⟨by decide +kernel, by decide +kernel⟩, List.mem_of_getElem? (i := 18) (by decide +kernel), List.mem_of_getElem? (i := 211) (by decide +kernel), List.mem_of_getElem? (i := 212) (by decide +kernel)⟩
theorem lw_p10 : lw_okq (⟨"BasisMoves$Bases", "toWeights", "(I[J[J)V"⟩, 3) := ⟨⟨by decide +kernel, by decide +kernel⟩, List.mem_of_getElem? (i := 118) (by decide +kernel), List.mem_of_getElem? (i := 232) (by decide +kernel), List.mem_of_getElem? (i := 233) (by decide +kernel)⟩
theorem lw_p11 : lw_okq (⟨"BasisMoves$Bases", "completesToTableaux", "([J[J)V"⟩, 3) := ⟨⟨by decide +kernel, by decide +kernel⟩, List.mem_of_getElem? (i := 118) (by decide +kernel), List.mem_of_getElem? (i := 239) (by decide +kernel), List.mem_of_getElem? (i := 240) (by decide +kernel)⟩
theorem lw_p12 : lw_okq (⟨"BasisMoves$Bases", "endFor", "(I)I"⟩, 3) := ⟨⟨by decide +kernel, by decide +kernel⟩, List.mem_of_getElem? (i := 118) (by decide +kernel), List.mem_of_getElem? (i := 243) (by decide +kernel), List.mem_of_getElem? (i := 244) (by decide +kernel)⟩
theorem lw_p13 : lw_okq (⟨"BasisMoves$Bases", "conjugate", "([J[J)V"⟩, 3) := ⟨⟨by decide +kernel, by decide +kernel⟩, List.mem_of_getElem? (i := 118) (by decide +kernel), List.mem_of_getElem? (i := 249) (by decide +kernel), List.mem_of_getElem? (i := 250) (by decide +kernel)⟩
theorem lw_p14 : lw_okq (⟨"BasisMoves$Bases", "powersToTableaux", "([J[J)V"⟩, 3) := ⟨⟨by decide +kernel, by decide +kernel⟩, List.mem_of_getElem? (i := 118) (by decide +kernel), List.mem_of_getElem? (i := 254) (by decide +kernel), List.mem_of_getElem? (i := 255) (by decide +kernel)⟩
theorem lw_p15 : lw_okq (⟨"BasisMoves$Bases", "startFor", "(I)I"⟩, 3) := ⟨⟨by decide +kernel, by decide +kernel⟩, List.mem_of_getElem? (i := 118) (by decide +kernel), List.mem_of_getElem? (i := 258) (by decide +kernel), List.mem_of_getElem? (i := 259) (by decide +kernel)⟩
def lw_privs_1 : List (MethodName × Nat) := [(⟨"BasisMoves$Partitions", "measure", "(I)V"⟩, 8), (⟨"BasisMoves$Partitions", "partAt", "(II)I"⟩, 8), (⟨"BasisMoves$Partitions", "findConjugate", "(I)I"⟩, 8), (⟨"BasisMoves$Partitions", "numberOf", "(II)I"⟩, 8), (⟨"BasisMoves$Partitions", "fillColumn", "(I)V"⟩, 8), (⟨"BasisMoves$Partitions", "isRowStrip", "(II)Z"⟩, 8), (⟨"BasisMoves$Partitions", "kostkaOf", "(II)I"⟩, 8), (⟨"BasisMoves$Partitions", "rimSign", "(II)I"⟩, 8), (⟨"BasisMoves$Partitions", "characterOf", "(II)I"⟩, 8), (⟨"BasisMoves$Partitions", "isAbove", "(II)Z"⟩, 8), (⟨"BasisMoves$Bases", "toWeights", "(I[J[J)V"⟩, 3), (⟨"BasisMoves$Bases", "completesToTableaux", "([J[J)V"⟩, 3), (⟨"BasisMoves$Bases", "endFor", "(I)I"⟩, 3), (⟨"BasisMoves$Bases", "conjugate", "([J[J)V"⟩, 3), (⟨"BasisMoves$Bases", "powersToTableaux", "([J[J)V"⟩, 3), (⟨"BasisMoves$Bases", "startFor", "(I)I"⟩, 3)]
theorem lw_r1 : ∀ q ∈ lw_privs_1, lw_okq q := List.forall_mem_cons.mpr ⟨lw_p0, List.forall_mem_cons.mpr ⟨lw_p1, List.forall_mem_cons.mpr ⟨lw_p2, List.forall_mem_cons.mpr ⟨lw_p3, List.forall_mem_cons.mpr ⟨lw_p4, List.forall_mem_cons.mpr ⟨lw_p5, List.forall_mem_cons.mpr ⟨lw_p6, List.forall_mem_cons.mpr ⟨lw_p7, List.forall_mem_cons.mpr ⟨lw_p8, List.forall_mem_cons.mpr ⟨lw_p9, List.forall_mem_cons.mpr ⟨lw_p10, List.forall_mem_cons.mpr ⟨lw_p11, List.forall_mem_cons.mpr ⟨lw_p12, List.forall_mem_cons.mpr ⟨lw_p13, List.forall_mem_cons.mpr ⟨lw_p14, List.forall_mem_cons.mpr ⟨lw_p15, fun _ h => absurd h List.not_mem_nil⟩⟩⟩⟩⟩⟩⟩⟩⟩⟩⟩⟩⟩⟩⟩⟩
theorem lw_p16 : lw_okq (⟨"BasisMoves$Bases", "tableauxToWeights", "([J[J)V"⟩, 3) := ⟨⟨by decide +kernel, by decide +kernel⟩, List.mem_of_getElem? (i := 118) (by decide +kernel), List.mem_of_getElem? (i := 264) (by decide +kernel), List.mem_of_getElem? (i := 265) (by decide +kernel)⟩
theorem lw_p17 : lw_okq (⟨"BasisMoves", "hold", "(I)I"⟩, 9) := ⟨⟨by decide +kernel, by decide +kernel⟩, List.mem_of_getElem? (i := 10) (by decide +kernel), List.mem_of_getElem? (i := 268) (by decide +kernel), List.mem_of_getElem? (i := 269) (by decide +kernel)⟩
theorem lw_p18 : lw_okq (⟨"BasisMoves", "degreeOf", "([J)I"⟩, 9) := ⟨⟨by decide +kernel, by decide +kernel⟩, List.mem_of_getElem? (i := 10) (by decide +kernel), List.mem_of_getElem? (i := 285) (by decide +kernel), List.mem_of_getElem? (i := 286) (by decide +kernel)⟩
theorem lw_p19 : lw_okq (⟨"BasisMoves$Bases", "fromWeights", "(I[J[J)V"⟩, 3) := ⟨⟨by decide +kernel, by decide +kernel⟩, List.mem_of_getElem? (i := 118) (by decide +kernel), List.mem_of_getElem? (i := 295) (by decide +kernel), List.mem_of_getElem? (i := 296) (by decide +kernel)⟩
theorem lw_p20 : lw_okq (⟨"BasisMoves$Bases", "weightsToTableaux", "([J[J)V"⟩, 3) := ⟨⟨by decide +kernel, by decide +kernel⟩, List.mem_of_getElem? (i := 118) (by decide +kernel), List.mem_of_getElem? (i := 299) (by decide +kernel), List.mem_of_getElem? (i := 300) (by decide +kernel)⟩
theorem lw_p21 : lw_okq (⟨"BasisMoves$Bases", "tableauxToCompletes", "([J[J)V"⟩, 3) := ⟨⟨by decide +kernel, by decide +kernel⟩, List.mem_of_getElem? (i := 118) (by decide +kernel), List.mem_of_getElem? (i := 303) (by decide +kernel), List.mem_of_getElem? (i := 304) (by decide +kernel)⟩
theorem lw_p22 : lw_okq (⟨"BasisMoves$Bases", "tableauxToPowers", "([J[J)V"⟩, 3) := ⟨⟨by decide +kernel, by decide +kernel⟩, List.mem_of_getElem? (i := 118) (by decide +kernel), List.mem_of_getElem? (i := 307) (by decide +kernel), List.mem_of_getElem? (i := 308) (by decide +kernel)⟩
theorem lw_p23 : lw_okq (⟨"BasisMoves$Work", "valueAt", "([JJJJ)J"⟩, 4) := ⟨⟨by decide +kernel, by decide +kernel⟩, List.mem_of_getElem? (i := 135) (by decide +kernel), List.mem_of_getElem? (i := 327) (by decide +kernel), List.mem_of_getElem? (i := 328) (by decide +kernel)⟩
theorem lw_p24 : lw_okq (⟨"BasisMoves", "readPowers", "(II)V"⟩, 9) := ⟨⟨by decide +kernel, by decide +kernel⟩, List.mem_of_getElem? (i := 10) (by decide +kernel), List.mem_of_getElem? (i := 348) (by decide +kernel), List.mem_of_getElem? (i := 349) (by decide +kernel)⟩
theorem lw_p25 : lw_okq (⟨"BasisMoves$Work", "multiply", "([J[J[J)V"⟩, 4) := ⟨⟨by decide +kernel, by decide +kernel⟩, List.mem_of_getElem? (i := 135) (by decide +kernel), List.mem_of_getElem? (i := 352) (by decide +kernel), List.mem_of_getElem? (i := 353) (by decide +kernel)⟩
theorem lw_p26 : lw_okq (⟨"BasisMoves$Work", "addJoined", "(IJ[J[J)V"⟩, 4) := ⟨⟨by decide +kernel, by decide +kernel⟩, List.mem_of_getElem? (i := 135) (by decide +kernel), List.mem_of_getElem? (i := 357) (by decide +kernel), List.mem_of_getElem? (i := 358) (by decide +kernel)⟩
theorem lw_p27 : lw_okq (⟨"BasisMoves$Partitions", "joined", "(II)I"⟩, 8) := ⟨⟨by decide +kernel, by decide +kernel⟩, List.mem_of_getElem? (i := 18) (by decide +kernel), List.mem_of_getElem? (i := 362) (by decide +kernel), List.mem_of_getElem? (i := 363) (by decide +kernel)⟩
theorem lw_p28 : lw_okq (⟨"BasisMoves", "holdPowers", "(I)I"⟩, 9) := ⟨⟨by decide +kernel, by decide +kernel⟩, List.mem_of_getElem? (i := 10) (by decide +kernel), List.mem_of_getElem? (i := 370) (by decide +kernel), List.mem_of_getElem? (i := 371) (by decide +kernel)⟩
theorem lw_p29 : lw_okq (⟨"BasisMoves$Work", "stripOff", "([J[J[J)V"⟩, 4) := ⟨⟨by decide +kernel, by decide +kernel⟩, List.mem_of_getElem? (i := 135) (by decide +kernel), List.mem_of_getElem? (i := 383) (by decide +kernel), List.mem_of_getElem? (i := 384) (by decide +kernel)⟩
theorem lw_p30 : lw_okq (⟨"BasisMoves$Work", "scalarWithProduct", "(I[J[J)J"⟩, 4) := ⟨⟨by decide +kernel, by decide +kernel⟩, List.mem_of_getElem? (i := 135) (by decide +kernel), List.mem_of_getElem? (i := 387) (by decide +kernel), List.mem_of_getElem? (i := 388) (by decide +kernel)⟩
theorem lw_p31 : lw_okq (⟨"BasisMoves$Work", "scalarWithPower", "(I[J)J"⟩, 4) := ⟨⟨by decide +kernel, by decide +kernel⟩, List.mem_of_getElem? (i := 135) (by decide +kernel), List.mem_of_getElem? (i := 391) (by decide +kernel), List.mem_of_getElem? (i := 392) (by decide +kernel)⟩
def lw_privs_2 : List (MethodName × Nat) := [(⟨"BasisMoves$Bases", "tableauxToWeights", "([J[J)V"⟩, 3), (⟨"BasisMoves", "hold", "(I)I"⟩, 9), (⟨"BasisMoves", "degreeOf", "([J)I"⟩, 9), (⟨"BasisMoves$Bases", "fromWeights", "(I[J[J)V"⟩, 3), (⟨"BasisMoves$Bases", "weightsToTableaux", "([J[J)V"⟩, 3), (⟨"BasisMoves$Bases", "tableauxToCompletes", "([J[J)V"⟩, 3), (⟨"BasisMoves$Bases", "tableauxToPowers", "([J[J)V"⟩, 3), (⟨"BasisMoves$Work", "valueAt", "([JJJJ)J"⟩, 4), (⟨"BasisMoves", "readPowers", "(II)V"⟩, 9), (⟨"BasisMoves$Work", "multiply", "([J[J[J)V"⟩, 4), (⟨"BasisMoves$Work", "addJoined", "(IJ[J[J)V"⟩, 4), (⟨"BasisMoves$Partitions", "joined", "(II)I"⟩, 8), (⟨"BasisMoves", "holdPowers", "(I)I"⟩, 9), (⟨"BasisMoves$Work", "stripOff", "([J[J[J)V"⟩, 4), (⟨"BasisMoves$Work", "scalarWithProduct", "(I[J[J)J"⟩, 4), (⟨"BasisMoves$Work", "scalarWithPower", "(I[J)J"⟩, 4)]
theorem lw_r2 : ∀ q ∈ lw_privs_2, lw_okq q := List.forall_mem_cons.mpr ⟨lw_p16, List.forall_mem_cons.mpr ⟨lw_p17, List.forall_mem_cons.mpr ⟨lw_p18, List.forall_mem_cons.mpr ⟨lw_p19, List.forall_mem_cons.mpr ⟨lw_p20, List.forall_mem_cons.mpr ⟨lw_p21, List.forall_mem_cons.mpr ⟨lw_p22, List.forall_mem_cons.mpr ⟨lw_p23, List.forall_mem_cons.mpr ⟨lw_p24, List.forall_mem_cons.mpr ⟨lw_p25, List.forall_mem_cons.mpr ⟨lw_p26, List.forall_mem_cons.mpr ⟨lw_p27, List.forall_mem_cons.mpr ⟨lw_p28, List.forall_mem_cons.mpr ⟨lw_p29, List.forall_mem_cons.mpr ⟨lw_p30, List.forall_mem_cons.mpr ⟨lw_p31, fun _ h => absurd h List.not_mem_nil⟩⟩⟩⟩⟩⟩⟩⟩⟩⟩⟩⟩⟩⟩⟩⟩
theorem lw_p32 : lw_okq (⟨"BasisMoves$Work", "meetWith", "([J[J[J)V"⟩, 4) := ⟨⟨by decide +kernel, by decide +kernel⟩, List.mem_of_getElem? (i := 135) (by decide +kernel), List.mem_of_getElem? (i := 399) (by decide +kernel), List.mem_of_getElem? (i := 400) (by decide +kernel)⟩
theorem lw_p33 : lw_okq (⟨"BasisMoves$Work", "plugWith", "([J[J[J)V"⟩, 4) := ⟨⟨by decide +kernel, by decide +kernel⟩, List.mem_of_getElem? (i := 135) (by decide +kernel), List.mem_of_getElem? (i := 407) (by decide +kernel), List.mem_of_getElem? (i := 408) (by decide +kernel)⟩
theorem lw_p34 : lw_okq (⟨"BasisMoves$Work", "stretch", "([JI[J)V"⟩, 4) := ⟨⟨by decide +kernel, by decide +kernel⟩, List.mem_of_getElem? (i := 135) (by decide +kernel), List.mem_of_getElem? (i := 411) (by decide +kernel), List.mem_of_getElem? (i := 412) (by decide +kernel)⟩
theorem lw_p35 : lw_okq (⟨"BasisMoves$Partitions", "multiplied", "(II)I"⟩, 8) := ⟨⟨by decide +kernel, by decide +kernel⟩, List.mem_of_getElem? (i := 18) (by decide +kernel), List.mem_of_getElem? (i := 415) (by decide +kernel), List.mem_of_getElem? (i := 416) (by decide +kernel)⟩
theorem lw_p36 : lw_okq (⟨"BasisMoves$Work", "plugPower", "(I)V"⟩, 4) := ⟨⟨by decide +kernel, by decide +kernel⟩, List.mem_of_getElem? (i := 135) (by decide +kernel), List.mem_of_getElem? (i := 419) (by decide +kernel), List.mem_of_getElem? (i := 420) (by decide +kernel)⟩
theorem lw_p37 : lw_okq (⟨"BasisMoves", "filledSlots", "()I"⟩, 9) := ⟨⟨by decide +kernel, by decide +kernel⟩, List.mem_of_getElem? (i := 10) (by decide +kernel), List.mem_of_getElem? (i := 438) (by decide +kernel), List.mem_of_getElem? (i := 439) (by decide +kernel)⟩
theorem lw_p38 : lw_okq (⟨"BasisMovesModel", "layPartition", "(III)V"⟩, 19) := ⟨⟨by decide +kernel, by decide +kernel⟩, List.mem_of_getElem? (i := 443) (by decide +kernel), List.mem_of_getElem? (i := 453) (by decide +kernel), List.mem_of_getElem? (i := 454) (by decide +kernel)⟩
theorem lw_p39 : lw_okq (⟨"BasisMovesModel", "layProduct", "(II)V"⟩, 19) := ⟨⟨by decide +kernel, by decide +kernel⟩, List.mem_of_getElem? (i := 443) (by decide +kernel), List.mem_of_getElem? (i := 466) (by decide +kernel), List.mem_of_getElem? (i := 467) (by decide +kernel)⟩
theorem lw_p40 : lw_okq (⟨"BasisMovesModel", "lengthOf", "(I)I"⟩, 19) := ⟨⟨by decide +kernel, by decide +kernel⟩, List.mem_of_getElem? (i := 443) (by decide +kernel), List.mem_of_getElem? (i := 470) (by decide +kernel), List.mem_of_getElem? (i := 471) (by decide +kernel)⟩
theorem lw_p41 : lw_okq (⟨"BasisMovesModel", "partOf", "(II)I"⟩, 19) := ⟨⟨by decide +kernel, by decide +kernel⟩, List.mem_of_getElem? (i := 443) (by decide +kernel), List.mem_of_getElem? (i := 474) (by decide +kernel), List.mem_of_getElem? (i := 475) (by decide +kernel)⟩
theorem lw_p42 : lw_okq (⟨"BasisMovesModel", "multiply", "([JI[JI[JI)V"⟩, 19) := ⟨⟨by decide +kernel, by decide +kernel⟩, List.mem_of_getElem? (i := 443) (by decide +kernel), List.mem_of_getElem? (i := 478) (by decide +kernel), List.mem_of_getElem? (i := 479) (by decide +kernel)⟩
theorem lw_p43 : lw_okq (⟨"BasisMovesModel", "conjugate", "(I)I"⟩, 19) := ⟨⟨by decide +kernel, by decide +kernel⟩, List.mem_of_getElem? (i := 443) (by decide +kernel), List.mem_of_getElem? (i := 554) (by decide +kernel), List.mem_of_getElem? (i := 555) (by decide +kernel)⟩
theorem lw_p44 : lw_okq (⟨"BasisMovesModel", "z", "(I)I"⟩, 19) := ⟨⟨by decide +kernel, by decide +kernel⟩, List.mem_of_getElem? (i := 443) (by decide +kernel), List.mem_of_getElem? (i := 558) (by decide +kernel), List.mem_of_getElem? (i := 559) (by decide +kernel)⟩
theorem lw_p45 : lw_okq (⟨"BasisMovesModel", "alike", "(I)I"⟩, 19) := ⟨⟨by decide +kernel, by decide +kernel⟩, List.mem_of_getElem? (i := 443) (by decide +kernel), List.mem_of_getElem? (i := 562) (by decide +kernel), List.mem_of_getElem? (i := 563) (by decide +kernel)⟩
theorem lw_p46 : lw_okq (⟨"BasisMovesModel", "timesOf", "(II)I"⟩, 19) := ⟨⟨by decide +kernel, by decide +kernel⟩, List.mem_of_getElem? (i := 443) (by decide +kernel), List.mem_of_getElem? (i := 566) (by decide +kernel), List.mem_of_getElem? (i := 567) (by decide +kernel)⟩
theorem lw_p47 : lw_okq (⟨"BasisMovesModel", "fillings", "(II)I"⟩, 19) := ⟨⟨by decide +kernel, by decide +kernel⟩, List.mem_of_getElem? (i := 443) (by decide +kernel), List.mem_of_getElem? (i := 570) (by decide +kernel), List.mem_of_getElem? (i := 571) (by decide +kernel)⟩
def lw_privs_3 : List (MethodName × Nat) := [(⟨"BasisMoves$Work", "meetWith", "([J[J[J)V"⟩, 4), (⟨"BasisMoves$Work", "plugWith", "([J[J[J)V"⟩, 4), (⟨"BasisMoves$Work", "stretch", "([JI[J)V"⟩, 4), (⟨"BasisMoves$Partitions", "multiplied", "(II)I"⟩, 8), (⟨"BasisMoves$Work", "plugPower", "(I)V"⟩, 4), (⟨"BasisMoves", "filledSlots", "()I"⟩, 9), (⟨"BasisMovesModel", "layPartition", "(III)V"⟩, 19), (⟨"BasisMovesModel", "layProduct", "(II)V"⟩, 19), (⟨"BasisMovesModel", "lengthOf", "(I)I"⟩, 19), (⟨"BasisMovesModel", "partOf", "(II)I"⟩, 19), (⟨"BasisMovesModel", "multiply", "([JI[JI[JI)V"⟩, 19), (⟨"BasisMovesModel", "conjugate", "(I)I"⟩, 19), (⟨"BasisMovesModel", "z", "(I)I"⟩, 19), (⟨"BasisMovesModel", "alike", "(I)I"⟩, 19), (⟨"BasisMovesModel", "timesOf", "(II)I"⟩, 19), (⟨"BasisMovesModel", "fillings", "(II)I"⟩, 19)]
theorem lw_r3 : ∀ q ∈ lw_privs_3, lw_okq q := List.forall_mem_cons.mpr ⟨lw_p32, List.forall_mem_cons.mpr ⟨lw_p33, List.forall_mem_cons.mpr ⟨lw_p34, List.forall_mem_cons.mpr ⟨lw_p35, List.forall_mem_cons.mpr ⟨lw_p36, List.forall_mem_cons.mpr ⟨lw_p37, List.forall_mem_cons.mpr ⟨lw_p38, List.forall_mem_cons.mpr ⟨lw_p39, List.forall_mem_cons.mpr ⟨lw_p40, List.forall_mem_cons.mpr ⟨lw_p41, List.forall_mem_cons.mpr ⟨lw_p42, List.forall_mem_cons.mpr ⟨lw_p43, List.forall_mem_cons.mpr ⟨lw_p44, List.forall_mem_cons.mpr ⟨lw_p45, List.forall_mem_cons.mpr ⟨lw_p46, List.forall_mem_cons.mpr ⟨lw_p47, fun _ h => absurd h List.not_mem_nil⟩⟩⟩⟩⟩⟩⟩⟩⟩⟩⟩⟩⟩⟩⟩⟩
theorem lw_p48 : lw_okq (⟨"BasisMovesModel", "isFilled", "(IIII)Z"⟩, 19) := ⟨⟨by decide +kernel, by decide +kernel⟩, List.mem_of_getElem? (i := 443) (by decide +kernel), List.mem_of_getElem? (i := 574) (by decide +kernel), List.mem_of_getElem? (i := 575) (by decide +kernel)⟩
theorem lw_p49 : lw_okq (⟨"BasisMovesModel", "layTableaux", "()V"⟩, 19) := ⟨⟨by decide +kernel, by decide +kernel⟩, List.mem_of_getElem? (i := 443) (by decide +kernel), List.mem_of_getElem? (i := 590) (by decide +kernel), List.mem_of_getElem? (i := 591) (by decide +kernel)⟩
theorem lw_p50 : lw_okq (⟨"BasisMovesModel", "scalarOf", "([JI[JI)J"⟩, 19) := ⟨⟨by decide +kernel, by decide +kernel⟩, List.mem_of_getElem? (i := 443) (by decide +kernel), List.mem_of_getElem? (i := 594) (by decide +kernel), List.mem_of_getElem? (i := 595) (by decide +kernel)⟩
theorem lw_p51 : lw_okq (⟨"BasisMovesModel", "layFound", "([JII)V"⟩, 19) := ⟨⟨by decide +kernel, by decide +kernel⟩, List.mem_of_getElem? (i := 443) (by decide +kernel), List.mem_of_getElem? (i := 598) (by decide +kernel), List.mem_of_getElem? (i := 599) (by decide +kernel)⟩
theorem lw_p52 : lw_okq (⟨"BasisMovesModel", "takeOff", "(IIJ)V"⟩, 19) := ⟨⟨by decide +kernel, by decide +kernel⟩, List.mem_of_getElem? (i := 443) (by decide +kernel), List.mem_of_getElem? (i := 603) (by decide +kernel), List.mem_of_getElem? (i := 604) (by decide +kernel)⟩
theorem lw_p53 : lw_okq (⟨"BasisMovesModel", "layComplete", "()V"⟩, 19) := ⟨⟨by decide +kernel, by decide +kernel⟩, List.mem_of_getElem? (i := 443) (by decide +kernel), List.mem_of_getElem? (i := 607) (by decide +kernel), List.mem_of_getElem? (i := 608) (by decide +kernel)⟩
theorem lw_p54 : lw_okq (⟨"BasisMovesModel", "clearWork", "()V"⟩, 19) := ⟨⟨by decide +kernel, by decide +kernel⟩, List.mem_of_getElem? (i := 443) (by decide +kernel), List.mem_of_getElem? (i := 618) (by decide +kernel), List.mem_of_getElem? (i := 619) (by decide +kernel)⟩
theorem lw_p55 : lw_okq (⟨"BasisMovesModel", "addMember", "(IIJ)V"⟩, 19) := ⟨⟨by decide +kernel, by decide +kernel⟩, List.mem_of_getElem? (i := 443) (by decide +kernel), List.mem_of_getElem? (i := 622) (by decide +kernel), List.mem_of_getElem? (i := 623) (by decide +kernel)⟩
theorem lw_p56 : lw_okq (⟨"BasisMovesModel", "keep", "(I)I"⟩, 19) := ⟨⟨by decide +kernel, by decide +kernel⟩, List.mem_of_getElem? (i := 443) (by decide +kernel), List.mem_of_getElem? (i := 626) (by decide +kernel), List.mem_of_getElem? (i := 627) (by decide +kernel)⟩
theorem lw_p57 : lw_okq (⟨"BasisMovesModel", "degreeOf", "(I)I"⟩, 19) := ⟨⟨by decide +kernel, by decide +kernel⟩, List.mem_of_getElem? (i := 443) (by decide +kernel), List.mem_of_getElem? (i := 640) (by decide +kernel), List.mem_of_getElem? (i := 641) (by decide +kernel)⟩
theorem lw_p58 : lw_okq (⟨"BasisMovesModel", "layMet", "(I)V"⟩, 19) := ⟨⟨by decide +kernel, by decide +kernel⟩, List.mem_of_getElem? (i := 443) (by decide +kernel), List.mem_of_getElem? (i := 684) (by decide +kernel), List.mem_of_getElem? (i := 685) (by decide +kernel)⟩
theorem lw_p59 : lw_okq (⟨"BasisMovesModel", "isWithin", "(II)Z"⟩, 19) := ⟨⟨by decide +kernel, by decide +kernel⟩, List.mem_of_getElem? (i := 443) (by decide +kernel), List.mem_of_getElem? (i := 692) (by decide +kernel), List.mem_of_getElem? (i := 693) (by decide +kernel)⟩
theorem lw_p60 : lw_okq (⟨"BasisMovesModel", "layPlugged", "(II)V"⟩, 19) := ⟨⟨by decide +kernel, by decide +kernel⟩, List.mem_of_getElem? (i := 443) (by decide +kernel), List.mem_of_getElem? (i := 696) (by decide +kernel), List.mem_of_getElem? (i := 697) (by decide +kernel)⟩
theorem lw_p61 : lw_okq (⟨"BasisMovesModel", "layPower", "(II)V"⟩, 19) := ⟨⟨by decide +kernel, by decide +kernel⟩, List.mem_of_getElem? (i := 443) (by decide +kernel), List.mem_of_getElem? (i := 700) (by decide +kernel), List.mem_of_getElem? (i := 701) (by decide +kernel)⟩
theorem lw_p62 : lw_okq (⟨"BasisMovesModel", "ofDegree", "(IZ)I"⟩, 19) := ⟨⟨by decide +kernel, by decide +kernel⟩, List.mem_of_getElem? (i := 443) (by decide +kernel), List.mem_of_getElem? (i := 716) (by decide +kernel), List.mem_of_getElem? (i := 717) (by decide +kernel)⟩
def lw_privs_4 : List (MethodName × Nat) := [(⟨"BasisMovesModel", "isFilled", "(IIII)Z"⟩, 19), (⟨"BasisMovesModel", "layTableaux", "()V"⟩, 19), (⟨"BasisMovesModel", "scalarOf", "([JI[JI)J"⟩, 19), (⟨"BasisMovesModel", "layFound", "([JII)V"⟩, 19), (⟨"BasisMovesModel", "takeOff", "(IIJ)V"⟩, 19), (⟨"BasisMovesModel", "layComplete", "()V"⟩, 19), (⟨"BasisMovesModel", "clearWork", "()V"⟩, 19), (⟨"BasisMovesModel", "addMember", "(IIJ)V"⟩, 19), (⟨"BasisMovesModel", "keep", "(I)I"⟩, 19), (⟨"BasisMovesModel", "degreeOf", "(I)I"⟩, 19), (⟨"BasisMovesModel", "layMet", "(I)V"⟩, 19), (⟨"BasisMovesModel", "isWithin", "(II)Z"⟩, 19), (⟨"BasisMovesModel", "layPlugged", "(II)V"⟩, 19), (⟨"BasisMovesModel", "layPower", "(II)V"⟩, 19), (⟨"BasisMovesModel", "ofDegree", "(IZ)I"⟩, 19)]
theorem lw_r4 : ∀ q ∈ lw_privs_4, lw_okq q := List.forall_mem_cons.mpr ⟨lw_p48, List.forall_mem_cons.mpr ⟨lw_p49, List.forall_mem_cons.mpr ⟨lw_p50, List.forall_mem_cons.mpr ⟨lw_p51, List.forall_mem_cons.mpr ⟨lw_p52, List.forall_mem_cons.mpr ⟨lw_p53, List.forall_mem_cons.mpr ⟨lw_p54, List.forall_mem_cons.mpr ⟨lw_p55, List.forall_mem_cons.mpr ⟨lw_p56, List.forall_mem_cons.mpr ⟨lw_p57, List.forall_mem_cons.mpr ⟨lw_p58, List.forall_mem_cons.mpr ⟨lw_p59, List.forall_mem_cons.mpr ⟨lw_p60, List.forall_mem_cons.mpr ⟨lw_p61, List.forall_mem_cons.mpr ⟨lw_p62, fun _ h => absurd h List.not_mem_nil⟩⟩⟩⟩⟩⟩⟩⟩⟩⟩⟩⟩⟩⟩⟩
def lw_privs : List (MethodName × Nat) := lw_privs_1 ++ (lw_privs_2 ++ (lw_privs_3 ++ (lw_privs_4)))
def lw_tbl : List Cond := k2_sels lw_privs ++ tables_1
theorem lw_privs_ok : ∀ q ∈ lw_privs, lw_okq q := by
  show ∀ q ∈ lw_privs_1 ++ (lw_privs_2 ++ (lw_privs_3 ++ (lw_privs_4))), lw_okq q
  exact List.forall_mem_append.mpr ⟨lw_r1, List.forall_mem_append.mpr ⟨lw_r2, List.forall_mem_append.mpr ⟨lw_r3, lw_r4⟩⟩⟩
-- ===== end of PART A; then your names; then what follows =====
/-! ===== BEGIN words of one list among another's, by their places ===== -/
theorem goodIn_r {big : List Cond} (ws : List Cond) (ps : List Nat) (hp : ws = ps.filterMap (fun i => big[i]?)) (h : ws.all goodWord = true) : GoodIn big ws := by
  intro w hw
  have h1 := List.all_eq_true.mp h w hw
  rw [hp] at hw
  obtain ⟨i, -, hi⟩ := List.mem_filterMap.mp hw
  have hm : w ∈ big := by first | exact List.mem_of_getElem? hi | exact List.getElem?_mem hi
  exact ⟨hm, good_of_word h1⟩
theorem goodIn_app {big a b : List Cond} (ha : GoodIn big a) (hb : GoodIn big b) : GoodIn big (a ++ b) := fun w h => (List.mem_append.mp h).elim (ha w) (hb w)
theorem goodIn_ca {big a b : List Cond} {c : Cond} (ha : GoodIn big (c :: a)) (hb : GoodIn big b) : GoodIn big (c :: (a ++ b)) := fun w h => (List.mem_cons.mp h).elim (fun e => ha w (List.mem_cons.mpr (Or.inl e))) (fun h => (List.mem_append.mp h).elim (fun h => ha w (List.mem_cons.mpr (Or.inr h))) (hb w))
theorem goodIn_sub {big ws : List Cond} (hm : ∀ w ∈ ws, w ∈ big) (h : ws.all goodWord = true) : GoodIn big ws := fun w hw => ⟨hm w hw, good_of_word (List.all_eq_true.mp h w hw)⟩
/-! ===== END ===== -/

/-! ===== BEGIN printed: names, fields, word lists, decode rows ===== -/
def RX0 : String := "BasisMoves$Bases"
def TX0 : u_T := fun k => match k with
  | 0 => ("BasisMoves$Bases", "partitions", "LBasisMoves$Partitions;", true)
  | 1 => ("BasisMoves$Bases", "tableaux", "[J", true)
  | _ => ("BasisMoves$Bases", "turned", "[J", true)
def tyX0 : Nat → FieldType := fun k => match k with
  | 0 => .object "BasisMoves$Partitions"
  | 1 => .array .long
  | _ => .array .long
abbrev wsX00 : List Cond := u_ws RX0 TX0 3
theorem nmX0 : ∀ a, a < 3 → ∀ b, b < 3 → a ≠ b → (TX0 a).2.1 ≠ (TX0 b).2.1 := by decide +kernel
theorem tyX0_ok : ∀ k, k < 3 → parseFieldDescriptor (TX0 k).2.2.1 = some (tyX0 k) := by decide +kernel
abbrev cX0_init : ByteArray := prog_2_method_1_code
def yX0_init : MethodName := ⟨RX0, "<init>", "(LBasisMoves$Partitions;)V"⟩
abbrev cX0_fromWeights : ByteArray := prog_2_method_2_code
def yX0_fromWeights : MethodName := ⟨RX0, "fromWeights", "(I[J[J)V"⟩
abbrev cX0_toWeights : ByteArray := prog_2_method_3_code
def yX0_toWeights : MethodName := ⟨RX0, "toWeights", "(I[J[J)V"⟩
abbrev cX0_startFor : ByteArray := prog_2_method_4_code
def yX0_startFor : MethodName := ⟨RX0, "startFor", "(I)I"⟩
abbrev cX0_endFor : ByteArray := prog_2_method_5_code
def yX0_endFor : MethodName := ⟨RX0, "endFor", "(I)I"⟩
abbrev cX0_tableauxToWeights : ByteArray := prog_2_method_6_code
def yX0_tableauxToWeights : MethodName := ⟨RX0, "tableauxToWeights", "([J[J)V"⟩
abbrev cX0_weightsToTableaux : ByteArray := prog_2_method_7_code
def yX0_weightsToTableaux : MethodName := ⟨RX0, "weightsToTableaux", "([J[J)V"⟩
abbrev cX0_completesToTableaux : ByteArray := prog_2_method_8_code
def yX0_completesToTableaux : MethodName := ⟨RX0, "completesToTableaux", "([J[J)V"⟩
abbrev cX0_tableauxToCompletes : ByteArray := prog_2_method_9_code
def yX0_tableauxToCompletes : MethodName := ⟨RX0, "tableauxToCompletes", "([J[J)V"⟩
abbrev cX0_powersToTableaux : ByteArray := prog_2_method_10_code
def yX0_powersToTableaux : MethodName := ⟨RX0, "powersToTableaux", "([J[J)V"⟩
abbrev cX0_tableauxToPowers : ByteArray := prog_2_method_11_code
def yX0_tableauxToPowers : MethodName := ⟨RX0, "tableauxToPowers", "([J[J)V"⟩
abbrev cX0_conjugate : ByteArray := prog_2_method_12_code
def yX0_conjugate : MethodName := ⟨RX0, "conjugate", "([J[J)V"⟩
def RX1 : String := "BasisMoves$Partitions"
def TX1 : u_T := fun k => match k with
  | 0 => ("BasisMoves$Partitions", "degrees", "[I", true)
  | 1 => ("BasisMoves$Partitions", "lengths", "[I", true)
  | 2 => ("BasisMoves$Partitions", "marks", "[I", true)
  | 3 => ("BasisMoves$Partitions", "conjugates", "[I", true)
  | 4 => ("BasisMoves$Partitions", "zs", "[I", true)
  | 5 => ("BasisMoves$Partitions", "joins", "[I", true)
  | 6 => ("BasisMoves$Partitions", "kostkas", "[I", true)
  | _ => ("BasisMoves$Partitions", "characters", "[I", true)
def tyX1 : Nat → FieldType := fun k => match k with
  | 0 => .array .int
  | 1 => .array .int
  | 2 => .array .int
  | 3 => .array .int
  | 4 => .array .int
  | 5 => .array .int
  | 6 => .array .int
  | _ => .array .int
abbrev wsX10 : List Cond := u_ws RX1 TX1 8
theorem nmX1 : ∀ a, a < 8 → ∀ b, b < 8 → a ≠ b → (TX1 a).2.1 ≠ (TX1 b).2.1 := by decide +kernel
theorem tyX1_ok : ∀ k, k < 8 → parseFieldDescriptor (TX1 k).2.2.1 = some (tyX1 k) := by decide +kernel
abbrev cX1_init : ByteArray := prog_3_method_1_code
def yX1_init : MethodName := ⟨RX1, "<init>", "()V"⟩
abbrev cX1_startOf : ByteArray := prog_3_method_2_code
def yX1_startOf : MethodName := ⟨RX1, "startOf", "(I)I"⟩
abbrev cX1_endOf : ByteArray := prog_3_method_3_code
def yX1_endOf : MethodName := ⟨RX1, "endOf", "(I)I"⟩
abbrev cX1_isPlace : ByteArray := prog_3_method_4_code
def yX1_isPlace : MethodName := ⟨RX1, "isPlace", "(I)Z"⟩
abbrev cX1_partAt : ByteArray := prog_3_method_5_code
def yX1_partAt : MethodName := ⟨RX1, "partAt", "(II)I"⟩
abbrev cX1_markOf : ByteArray := prog_3_method_6_code
def yX1_markOf : MethodName := ⟨RX1, "markOf", "(I)I"⟩
abbrev cX1_numberOf : ByteArray := prog_3_method_7_code
def yX1_numberOf : MethodName := ⟨RX1, "numberOf", "(II)I"⟩
abbrev cX1_measure : ByteArray := prog_3_method_8_code
def yX1_measure : MethodName := ⟨RX1, "measure", "(I)V"⟩
abbrev cX1_findConjugate : ByteArray := prog_3_method_9_code
def yX1_findConjugate : MethodName := ⟨RX1, "findConjugate", "(I)I"⟩
abbrev cX1_joined : ByteArray := prog_3_method_10_code
def yX1_joined : MethodName := ⟨RX1, "joined", "(II)I"⟩
abbrev cX1_multiplied : ByteArray := prog_3_method_11_code
def yX1_multiplied : MethodName := ⟨RX1, "multiplied", "(II)I"⟩
abbrev cX1_kostkaOf : ByteArray := prog_3_method_12_code
def yX1_kostkaOf : MethodName := ⟨RX1, "kostkaOf", "(II)I"⟩
abbrev cX1_characterOf : ByteArray := prog_3_method_13_code
def yX1_characterOf : MethodName := ⟨RX1, "characterOf", "(II)I"⟩
abbrev cX1_isAbove : ByteArray := prog_3_method_14_code
def yX1_isAbove : MethodName := ⟨RX1, "isAbove", "(II)Z"⟩
abbrev cX1_fillColumn : ByteArray := prog_3_method_15_code
def yX1_fillColumn : MethodName := ⟨RX1, "fillColumn", "(I)V"⟩
abbrev cX1_isRowStrip : ByteArray := prog_3_method_16_code
def yX1_isRowStrip : MethodName := ⟨RX1, "isRowStrip", "(II)Z"⟩
abbrev cX1_rimSign : ByteArray := prog_3_method_17_code
def yX1_rimSign : MethodName := ⟨RX1, "rimSign", "(II)I"⟩
def RX2 : String := "BasisMoves$Work"
def TX2 : u_T := fun k => match k with
  | 0 => ("BasisMoves$Work", "partitions", "LBasisMoves$Partitions;", true)
  | 1 => ("BasisMoves$Work", "stretched", "[[J", true)
  | 2 => ("BasisMoves$Work", "product", "[J", true)
  | _ => ("BasisMoves$Work", "longer", "[J", true)
def tyX2 : Nat → FieldType := fun k => match k with
  | 0 => .object "BasisMoves$Partitions"
  | 1 => .array (.array .long)
  | 2 => .array .long
  | _ => .array .long
abbrev wsX20 : List Cond := u_ws RX2 TX2 4
theorem nmX2 : ∀ a, a < 4 → ∀ b, b < 4 → a ≠ b → (TX2 a).2.1 ≠ (TX2 b).2.1 := by decide +kernel
theorem tyX2_ok : ∀ k, k < 4 → parseFieldDescriptor (TX2 k).2.2.1 = some (tyX2 k) := by decide +kernel
abbrev cX2_init : ByteArray := prog_4_method_1_code
def yX2_init : MethodName := ⟨RX2, "<init>", "(LBasisMoves$Partitions;)V"⟩
abbrev cX2_scalarOf : ByteArray := prog_4_method_2_code
def yX2_scalarOf : MethodName := ⟨RX2, "scalarOf", "([J[J)J"⟩
abbrev cX2_multiply : ByteArray := prog_4_method_3_code
def yX2_multiply : MethodName := ⟨RX2, "multiply", "([J[J[J)V"⟩
abbrev cX2_addJoined : ByteArray := prog_4_method_4_code
def yX2_addJoined : MethodName := ⟨RX2, "addJoined", "(IJ[J[J)V"⟩
abbrev cX2_divideByCommon : ByteArray := prog_4_method_5_code
def yX2_divideByCommon : MethodName := ⟨RX2, "divideByCommon", "([J)V"⟩
abbrev cX2_scalarWithPower : ByteArray := prog_4_method_6_code
def yX2_scalarWithPower : MethodName := ⟨RX2, "scalarWithPower", "(I[J)J"⟩
abbrev cX2_stripOff : ByteArray := prog_4_method_7_code
def yX2_stripOff : MethodName := ⟨RX2, "stripOff", "([J[J[J)V"⟩
abbrev cX2_scalarWithProduct : ByteArray := prog_4_method_8_code
def yX2_scalarWithProduct : MethodName := ⟨RX2, "scalarWithProduct", "(I[J[J)J"⟩
abbrev cX2_meetWith : ByteArray := prog_4_method_9_code
def yX2_meetWith : MethodName := ⟨RX2, "meetWith", "([J[J[J)V"⟩
abbrev cX2_plugWith : ByteArray := prog_4_method_10_code
def yX2_plugWith : MethodName := ⟨RX2, "plugWith", "([J[J[J)V"⟩
abbrev cX2_plugPower : ByteArray := prog_4_method_11_code
def yX2_plugPower : MethodName := ⟨RX2, "plugPower", "(I)V"⟩
abbrev cX2_stretch : ByteArray := prog_4_method_12_code
def yX2_stretch : MethodName := ⟨RX2, "stretch", "([JI[J)V"⟩
abbrev cX2_valueAt : ByteArray := prog_4_method_13_code
def yX2_valueAt : MethodName := ⟨RX2, "valueAt", "([JJJJ)J"⟩
abbrev cX2_powerOf : ByteArray := prog_4_method_14_code
def yX2_powerOf : MethodName := ⟨RX2, "powerOf", "(JI)J"⟩
def RX3 : String := "BasisMoves"
def TX3 : u_T := fun k => match k with
  | 0 => ("BasisMoves", "partitions", "LBasisMoves$Partitions;", true)
  | 1 => ("BasisMoves", "bases", "LBasisMoves$Bases;", true)
  | 2 => ("BasisMoves", "work", "LBasisMoves$Work;", true)
  | 3 => ("BasisMoves", "held", "[[J", true)
  | 4 => ("BasisMoves", "kept", "[[J", true)
  | 5 => ("BasisMoves", "hasImage", "[Z", true)
  | 6 => ("BasisMoves", "left", "[J", true)
  | 7 => ("BasisMoves", "right", "[J", true)
  | _ => ("BasisMoves", "result", "[J", true)
def tyX3 : Nat → FieldType := fun k => match k with
  | 0 => .object "BasisMoves$Partitions"
  | 1 => .object "BasisMoves$Bases"
  | 2 => .object "BasisMoves$Work"
  | 3 => .array (.array .long)
  | 4 => .array (.array .long)
  | 5 => .array .boolean
  | 6 => .array .long
  | 7 => .array .long
  | _ => .array .long
abbrev wsX30 : List Cond := u_ws RX3 TX3 9
theorem nmX3 : ∀ a, a < 9 → ∀ b, b < 9 → a ≠ b → (TX3 a).2.1 ≠ (TX3 b).2.1 := by decide +kernel
theorem tyX3_ok : ∀ k, k < 9 → parseFieldDescriptor (TX3 k).2.2.1 = some (tyX3 k) := by decide +kernel
abbrev cX3_init : ByteArray := prog_1_method_1_code
def yX3_init : MethodName := ⟨RX3, "<init>", "()V"⟩
abbrev cX3_part : ByteArray := prog_1_method_2_code
def yX3_part : MethodName := ⟨RX3, "part", "(II)I"⟩
abbrev cX3_about : ByteArray := prog_1_method_3_code
def yX3_about : MethodName := ⟨RX3, "about", "(II)I"⟩
abbrev cX3_kostka : ByteArray := prog_1_method_4_code
def yX3_kostka : MethodName := ⟨RX3, "kostka", "(II)I"⟩
abbrev cX3_character : ByteArray := prog_1_method_5_code
def yX3_character : MethodName := ⟨RX3, "character", "(II)I"⟩
abbrev cX3_above : ByteArray := prog_1_method_6_code
def yX3_above : MethodName := ⟨RX3, "above", "(II)I"⟩
abbrev cX3_put : ByteArray := prog_1_method_7_code
def yX3_put : MethodName := ⟨RX3, "put", "(IIII)I"⟩
abbrev cX3_add : ByteArray := prog_1_method_8_code
def yX3_add : MethodName := ⟨RX3, "add", "(III)I"⟩
abbrev cX3_degree : ByteArray := prog_1_method_9_code
def yX3_degree : MethodName := ⟨RX3, "degree", "(I)I"⟩
abbrev cX3_coefficient : ByteArray := prog_1_method_10_code
def yX3_coefficient : MethodName := ⟨RX3, "coefficient", "(IIII)J"⟩
abbrev cX3_next : ByteArray := prog_1_method_11_code
def yX3_next : MethodName := ⟨RX3, "next", "(III)I"⟩
abbrev cX3_value : ByteArray := prog_1_method_12_code
def yX3_value : MethodName := ⟨RX3, "value", "(IIII)J"⟩
abbrev cX3_scalar : ByteArray := prog_1_method_13_code
def yX3_scalar : MethodName := ⟨RX3, "scalar", "(II)J"⟩
abbrev cX3_times : ByteArray := prog_1_method_14_code
def yX3_times : MethodName := ⟨RX3, "times", "(III)I"⟩
abbrev cX3_turn : ByteArray := prog_1_method_15_code
def yX3_turn : MethodName := ⟨RX3, "turn", "(II)I"⟩
abbrev cX3_strip : ByteArray := prog_1_method_16_code
def yX3_strip : MethodName := ⟨RX3, "strip", "(III)I"⟩
abbrev cX3_meet : ByteArray := prog_1_method_17_code
def yX3_meet : MethodName := ⟨RX3, "meet", "(III)I"⟩
abbrev cX3_plug : ByteArray := prog_1_method_18_code
def yX3_plug : MethodName := ⟨RX3, "plug", "(III)I"⟩
abbrev cX3_image : ByteArray := prog_1_method_19_code
def yX3_image : MethodName := ⟨RX3, "image", "(I)I"⟩
abbrev cX3_restore : ByteArray := prog_1_method_20_code
def yX3_restore : MethodName := ⟨RX3, "restore", "(I)I"⟩
abbrev cX3_count : ByteArray := prog_1_method_21_code
def yX3_count : MethodName := ⟨RX3, "count", "(I)I"⟩
abbrev cX3_isSlot : ByteArray := prog_1_method_22_code
def yX3_isSlot : MethodName := ⟨RX3, "isSlot", "(I)Z"⟩
abbrev cX3_isBase : ByteArray := prog_1_method_23_code
def yX3_isBase : MethodName := ⟨RX3, "isBase", "(I)Z"⟩
abbrev cX3_isPartition : ByteArray := prog_1_method_24_code
def yX3_isPartition : MethodName := ⟨RX3, "isPartition", "(I)Z"⟩
abbrev cX3_isWithin : ByteArray := prog_1_method_25_code
def yX3_isWithin : MethodName := ⟨RX3, "isWithin", "(JJ)Z"⟩
abbrev cX3_areWithin : ByteArray := prog_1_method_26_code
def yX3_areWithin : MethodName := ⟨RX3, "areWithin", "([JJ)Z"⟩
abbrev cX3_degreeOf : ByteArray := prog_1_method_27_code
def yX3_degreeOf : MethodName := ⟨RX3, "degreeOf", "([J)I"⟩
abbrev cX3_filledSlots : ByteArray := prog_1_method_28_code
def yX3_filledSlots : MethodName := ⟨RX3, "filledSlots", "()I"⟩
abbrev cX3_readPowers : ByteArray := prog_1_method_29_code
def yX3_readPowers : MethodName := ⟨RX3, "readPowers", "(II)V"⟩
abbrev cX3_holdPowers : ByteArray := prog_1_method_30_code
def yX3_holdPowers : MethodName := ⟨RX3, "holdPowers", "(I)I"⟩
abbrev cX3_hold : ByteArray := prog_1_method_31_code
def yX3_hold : MethodName := ⟨RX3, "hold", "(I)I"⟩
abbrev cX3_commonDivisor : ByteArray := prog_1_method_32_code
def yX3_commonDivisor : MethodName := ⟨RX3, "commonDivisor", "(JJ)J"⟩
def RX4 : String := "BasisMovesModel"
def TX4 : u_T := fun k => match k with
  | 0 => ("BasisMovesModel", "parts", "[I", true)
  | 1 => ("BasisMovesModel", "degrees", "[I", true)
  | 2 => ("BasisMovesModel", "byKey", "[I", true)
  | 3 => ("BasisMovesModel", "members", "[J", true)
  | 4 => ("BasisMovesModel", "areTableaux", "Z", false)
  | 5 => ("BasisMovesModel", "slots", "[J", true)
  | 6 => ("BasisMovesModel", "single", "[J", true)
  | 7 => ("BasisMovesModel", "box", "[I", true)
  | 8 => ("BasisMovesModel", "counts", "[I", true)
  | 9 => ("BasisMovesModel", "rest", "[J", true)
  | 10 => ("BasisMovesModel", "found", "[J", true)
  | 11 => ("BasisMovesModel", "plain", "[J", true)
  | 12 => ("BasisMovesModel", "work", "[J", true)
  | 13 => ("BasisMovesModel", "product", "[J", true)
  | 14 => ("BasisMovesModel", "met", "[J", true)
  | 15 => ("BasisMovesModel", "powered", "[J", true)
  | 16 => ("BasisMovesModel", "plugged", "[J", true)
  | 17 => ("BasisMovesModel", "image", "[J", true)
  | _ => ("BasisMovesModel", "isKept", "[Z", true)
def tyX4 : Nat → FieldType := fun k => match k with
  | 0 => .array .int
  | 1 => .array .int
  | 2 => .array .int
  | 3 => .array .long
  | 4 => .boolean
  | 5 => .array .long
  | 6 => .array .long
  | 7 => .array .int
  | 8 => .array .int
  | 9 => .array .long
  | 10 => .array .long
  | 11 => .array .long
  | 12 => .array .long
  | 13 => .array .long
  | 14 => .array .long
  | 15 => .array .long
  | 16 => .array .long
  | 17 => .array .long
  | _ => .array .boolean
abbrev wsX40 : List Cond := u_ws RX4 TX4 19
theorem nmX4 : ∀ a, a < 19 → ∀ b, b < 19 → a ≠ b → (TX4 a).2.1 ≠ (TX4 b).2.1 := by decide +kernel
theorem tyX4_ok : ∀ k, k < 19 → parseFieldDescriptor (TX4 k).2.2.1 = some (tyX4 k) := by decide +kernel
abbrev cX4_init : ByteArray := prog_6_method_1_code
def yX4_init : MethodName := ⟨RX4, "<init>", "()V"⟩
abbrev cX4_figure : ByteArray := prog_6_method_2_code
def yX4_figure : MethodName := ⟨RX4, "figure", "(II)I"⟩
abbrev cX4_isFalling : ByteArray := prog_6_method_3_code
def yX4_isFalling : MethodName := ⟨RX4, "isFalling", "(II)Z"⟩
abbrev cX4_key : ByteArray := prog_6_method_4_code
def yX4_key : MethodName := ⟨RX4, "key", "(I)I"⟩
abbrev cX4_layPartition : ByteArray := prog_6_method_5_code
def yX4_layPartition : MethodName := ⟨RX4, "layPartition", "(III)V"⟩
abbrev cX4_at : ByteArray := prog_6_method_6_code
def yX4_at : MethodName := ⟨RX4, "at", "(III)I"⟩
abbrev cX4_partOf : ByteArray := prog_6_method_7_code
def yX4_partOf : MethodName := ⟨RX4, "partOf", "(II)I"⟩
abbrev cX4_lengthOf : ByteArray := prog_6_method_8_code
def yX4_lengthOf : MethodName := ⟨RX4, "lengthOf", "(I)I"⟩
abbrev cX4_multiply : ByteArray := prog_6_method_9_code
def yX4_multiply : MethodName := ⟨RX4, "multiply", "([JI[JI[JI)V"⟩
abbrev cX4_layProduct : ByteArray := prog_6_method_10_code
def yX4_layProduct : MethodName := ⟨RX4, "layProduct", "(II)V"⟩
abbrev cX4_in : ByteArray := prog_6_method_11_code
def yX4_in : MethodName := ⟨RX4, "in", "(III)Z"⟩
abbrev cX4_isPartition : ByteArray := prog_6_method_12_code
def yX4_isPartition : MethodName := ⟨RX4, "isPartition", "(I)Z"⟩
abbrev cX4_isSlot : ByteArray := prog_6_method_13_code
def yX4_isSlot : MethodName := ⟨RX4, "isSlot", "(I)Z"⟩
abbrev cX4_isFilled : ByteArray := prog_6_method_14_code
def yX4_isFilled : MethodName := ⟨RX4, "isFilled", "(IIII)Z"⟩
abbrev cX4_fillings : ByteArray := prog_6_method_15_code
def yX4_fillings : MethodName := ⟨RX4, "fillings", "(II)I"⟩
abbrev cX4_layTableaux : ByteArray := prog_6_method_16_code
def yX4_layTableaux : MethodName := ⟨RX4, "layTableaux", "()V"⟩
abbrev cX4_part : ByteArray := prog_6_method_17_code
def yX4_part : MethodName := ⟨RX4, "part", "(II)I"⟩
abbrev cX4_conjugate : ByteArray := prog_6_method_18_code
def yX4_conjugate : MethodName := ⟨RX4, "conjugate", "(I)I"⟩
abbrev cX4_timesOf : ByteArray := prog_6_method_19_code
def yX4_timesOf : MethodName := ⟨RX4, "timesOf", "(II)I"⟩
abbrev cX4_alike : ByteArray := prog_6_method_20_code
def yX4_alike : MethodName := ⟨RX4, "alike", "(I)I"⟩
abbrev cX4_z : ByteArray := prog_6_method_21_code
def yX4_z : MethodName := ⟨RX4, "z", "(I)I"⟩
abbrev cX4_about : ByteArray := prog_6_method_22_code
def yX4_about : MethodName := ⟨RX4, "about", "(II)I"⟩
abbrev cX4_kostka : ByteArray := prog_6_method_23_code
def yX4_kostka : MethodName := ⟨RX4, "kostka", "(II)I"⟩
abbrev cX4_above : ByteArray := prog_6_method_24_code
def yX4_above : MethodName := ⟨RX4, "above", "(II)I"⟩
abbrev cX4_takeOff : ByteArray := prog_6_method_25_code
def yX4_takeOff : MethodName := ⟨RX4, "takeOff", "(IIJ)V"⟩
abbrev cX4_layFound : ByteArray := prog_6_method_26_code
def yX4_layFound : MethodName := ⟨RX4, "layFound", "([JII)V"⟩
abbrev cX4_layComplete : ByteArray := prog_6_method_27_code
def yX4_layComplete : MethodName := ⟨RX4, "layComplete", "()V"⟩
abbrev cX4_scalarOf : ByteArray := prog_6_method_28_code
def yX4_scalarOf : MethodName := ⟨RX4, "scalarOf", "([JI[JI)J"⟩
abbrev cX4_character : ByteArray := prog_6_method_29_code
def yX4_character : MethodName := ⟨RX4, "character", "(II)I"⟩
abbrev cX4_clearWork : ByteArray := prog_6_method_30_code
def yX4_clearWork : MethodName := ⟨RX4, "clearWork", "()V"⟩
abbrev cX4_addMember : ByteArray := prog_6_method_31_code
def yX4_addMember : MethodName := ⟨RX4, "addMember", "(IIJ)V"⟩
abbrev cX4_keep : ByteArray := prog_6_method_32_code
def yX4_keep : MethodName := ⟨RX4, "keep", "(I)I"⟩
abbrev cX4_put : ByteArray := prog_6_method_33_code
def yX4_put : MethodName := ⟨RX4, "put", "(IIII)I"⟩
abbrev cX4_add : ByteArray := prog_6_method_34_code
def yX4_add : MethodName := ⟨RX4, "add", "(III)I"⟩
abbrev cX4_degreeOf : ByteArray := prog_6_method_35_code
def yX4_degreeOf : MethodName := ⟨RX4, "degreeOf", "(I)I"⟩
abbrev cX4_degree : ByteArray := prog_6_method_36_code
def yX4_degree : MethodName := ⟨RX4, "degree", "(I)I"⟩
abbrev cX4_common : ByteArray := prog_6_method_37_code
def yX4_common : MethodName := ⟨RX4, "common", "(JJ)J"⟩
abbrev cX4_coefficient : ByteArray := prog_6_method_38_code
def yX4_coefficient : MethodName := ⟨RX4, "coefficient", "(IIII)J"⟩
abbrev cX4_next : ByteArray := prog_6_method_39_code
def yX4_next : MethodName := ⟨RX4, "next", "(III)I"⟩
abbrev cX4_power : ByteArray := prog_6_method_40_code
def yX4_power : MethodName := ⟨RX4, "power", "(II)J"⟩
abbrev cX4_value : ByteArray := prog_6_method_41_code
def yX4_value : MethodName := ⟨RX4, "value", "(IIII)J"⟩
abbrev cX4_scalar : ByteArray := prog_6_method_42_code
def yX4_scalar : MethodName := ⟨RX4, "scalar", "(II)J"⟩
abbrev cX4_times : ByteArray := prog_6_method_43_code
def yX4_times : MethodName := ⟨RX4, "times", "(III)I"⟩
abbrev cX4_turn : ByteArray := prog_6_method_44_code
def yX4_turn : MethodName := ⟨RX4, "turn", "(II)I"⟩
abbrev cX4_strip : ByteArray := prog_6_method_45_code
def yX4_strip : MethodName := ⟨RX4, "strip", "(III)I"⟩
abbrev cX4_layMet : ByteArray := prog_6_method_46_code
def yX4_layMet : MethodName := ⟨RX4, "layMet", "(I)V"⟩
abbrev cX4_meet : ByteArray := prog_6_method_47_code
def yX4_meet : MethodName := ⟨RX4, "meet", "(III)I"⟩
abbrev cX4_layPower : ByteArray := prog_6_method_48_code
def yX4_layPower : MethodName := ⟨RX4, "layPower", "(II)V"⟩
abbrev cX4_layPlugged : ByteArray := prog_6_method_49_code
def yX4_layPlugged : MethodName := ⟨RX4, "layPlugged", "(II)V"⟩
abbrev cX4_isWithin : ByteArray := prog_6_method_50_code
def yX4_isWithin : MethodName := ⟨RX4, "isWithin", "(II)Z"⟩
abbrev cX4_plug : ByteArray := prog_6_method_51_code
def yX4_plug : MethodName := ⟨RX4, "plug", "(III)I"⟩
abbrev cX4_image : ByteArray := prog_6_method_52_code
def yX4_image : MethodName := ⟨RX4, "image", "(I)I"⟩
abbrev cX4_restore : ByteArray := prog_6_method_53_code
def yX4_restore : MethodName := ⟨RX4, "restore", "(I)I"⟩
abbrev cX4_ofDegree : ByteArray := prog_6_method_54_code
def yX4_ofDegree : MethodName := ⟨RX4, "ofDegree", "(IZ)I"⟩
abbrev cX4_count : ByteArray := prog_6_method_55_code
def yX4_count : MethodName := ⟨RX4, "count", "(I)I"⟩
def RJ9 : String := "java/lang/Math"
def TJ9 : u_T := fun k => match k with
  | _ => ("", "", "", false)
def tyJ9 : Nat → FieldType := fun k => match k with
  | _ => .int
abbrev wsJ90 : List Cond := u_ws RJ9 TJ9 0
theorem nmJ9 : ∀ a, a < 0 → ∀ b, b < 0 → a ≠ b → (TJ9 a).2.1 ≠ (TJ9 b).2.1 := by decide +kernel
theorem tyJ9_ok : ∀ k, k < 0 → parseFieldDescriptor (TJ9 k).2.2.1 = some (tyJ9 k) := by decide +kernel
abbrev cJ9_abs_067f4 : ByteArray := prog_7_method_61_code
def yJ9_abs_067f4 : MethodName := ⟨RJ9, "abs", "(J)J"⟩
abbrev cJ9_min_7cf53 : ByteArray := prog_7_method_69_code
def yJ9_min_7cf53 : MethodName := ⟨RJ9, "min", "(II)I"⟩
def RJ10 : String := "java/lang/System"
def TJ10 : u_T := fun k => match k with
  | _ => ("", "", "", false)
def tyJ10 : Nat → FieldType := fun k => match k with
  | _ => .int
abbrev wsJ100 : List Cond := u_ws RJ10 TJ10 0
theorem nmJ10 : ∀ a, a < 0 → ∀ b, b < 0 → a ≠ b → (TJ10 a).2.1 ≠ (TJ10 b).2.1 := by decide +kernel
theorem tyJ10_ok : ∀ k, k < 0 → parseFieldDescriptor (TJ10 k).2.2.1 = some (tyJ10 k) := by decide +kernel
def RJ7 : String := "java/util/Arrays"
def TJ7 : u_T := fun k => match k with
  | _ => ("", "", "", false)
def tyJ7 : Nat → FieldType := fun k => match k with
  | _ => .int
abbrev wsJ70 : List Cond := u_ws RJ7 TJ7 0
theorem nmJ7 : ∀ a, a < 0 → ∀ b, b < 0 → a ≠ b → (TJ7 a).2.1 ≠ (TJ7 b).2.1 := by decide +kernel
theorem tyJ7_ok : ∀ k, k < 0 → parseFieldDescriptor (TJ7 k).2.2.1 = some (tyJ7 k) := by decide +kernel
abbrev cJ7_fill_d0a16 : ByteArray := prog_9_method_101_code
def yJ7_fill_d0a16 : MethodName := ⟨RJ7, "fill", "([JJ)V"⟩
def RL : String := "BasisMovesLaw"
abbrev cL_law : ByteArray := code
def yL_law : MethodName := ⟨RL, "law", "([I)Z"⟩
abbrev vwCl : List vw_C := [(RX0, TX0, 3), (RX1, TX1, 8), (RX2, TX2, 4), (RX3, TX3, 9), (RX4, TX4, 19)]
