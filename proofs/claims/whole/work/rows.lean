section
-- ===== PART A: goes FIRST, ahead of the names: the tables' words, and 'selects' of the private methods out of them =====
/-- a private method of a class that the tables say can be made, by its rows of tables_1 -/
def lw_okq (q : MethodName × Nat) : Prop := (q.1.cls ≠ "java/lang/invoke/MethodHandle" ∧ q.1.cls ≠ "java/lang/invoke/VarHandle") ∧ Cond.instantiable q.1.cls q.2 ∈ tables_1 ∧ Cond.privateMethod q.1 ∈ tables_1 ∧ Cond.instanceMethod q.1 ∈ tables_1
theorem lw_p0 : lw_okq (⟨"HullOffsets$Grid", "renew", "(II)V"⟩, 5) := ⟨⟨by decide +kernel, by decide +kernel⟩, List.mem_of_getElem? (i := 18) (by decide +kernel), List.mem_of_getElem? (i := 120) (by decide +kernel), List.mem_of_getElem? (i := 121) (by decide +kernel)⟩
theorem lw_p1 : lw_okq (⟨"HullOffsets$Grid", "hasPoint", "(II)Z"⟩, 5) := ⟨⟨by decide +kernel, by decide +kernel⟩, List.mem_of_getElem? (i := 18) (by decide +kernel), List.mem_of_getElem? (i := 157) (by decide +kernel), List.mem_of_getElem? (i := 158) (by decide +kernel)⟩
theorem lw_p2 : lw_okq (⟨"HullOffsets$Grid", "put", "(II)I"⟩, 5) := ⟨⟨by decide +kernel, by decide +kernel⟩, List.mem_of_getElem? (i := 18) (by decide +kernel), List.mem_of_getElem? (i := 164) (by decide +kernel), List.mem_of_getElem? (i := 165) (by decide +kernel)⟩
theorem lw_p3 : lw_okq (⟨"HullOffsets$Grid", "movedBy", "(I)I"⟩, 5) := ⟨⟨by decide +kernel, by decide +kernel⟩, List.mem_of_getElem? (i := 18) (by decide +kernel), List.mem_of_getElem? (i := 184) (by decide +kernel), List.mem_of_getElem? (i := 185) (by decide +kernel)⟩
theorem lw_p4 : lw_okq (⟨"HullOffsets", "refusalOfLine", "(II)I"⟩, 7) := ⟨⟨by decide +kernel, by decide +kernel⟩, List.mem_of_getElem? (i := 10) (by decide +kernel), List.mem_of_getElem? (i := 192) (by decide +kernel), List.mem_of_getElem? (i := 193) (by decide +kernel)⟩
theorem lw_p5 : lw_okq (⟨"HullOffsets$Grid", "linesOf", "(I)I"⟩, 5) := ⟨⟨by decide +kernel, by decide +kernel⟩, List.mem_of_getElem? (i := 18) (by decide +kernel), List.mem_of_getElem? (i := 196) (by decide +kernel), List.mem_of_getElem? (i := 197) (by decide +kernel)⟩
theorem lw_p6 : lw_okq (⟨"HullOffsets", "takeLine", "(II)V"⟩, 7) := ⟨⟨by decide +kernel, by decide +kernel⟩, List.mem_of_getElem? (i := 10) (by decide +kernel), List.mem_of_getElem? (i := 200) (by decide +kernel), List.mem_of_getElem? (i := 201) (by decide +kernel)⟩
theorem lw_p7 : lw_okq (⟨"HullOffsets$Grid", "layOut", "(IILHullOffsets$Line;)V"⟩, 5) := ⟨⟨by decide +kernel, by decide +kernel⟩, List.mem_of_getElem? (i := 18) (by decide +kernel), List.mem_of_getElem? (i := 204) (by decide +kernel), List.mem_of_getElem? (i := 205) (by decide +kernel)⟩
theorem lw_p8 : lw_okq (⟨"HullOffsets$Grid", "pointsOf", "(I)I"⟩, 5) := ⟨⟨by decide +kernel, by decide +kernel⟩, List.mem_of_getElem? (i := 18) (by decide +kernel), List.mem_of_getElem? (i := 208) (by decide +kernel), List.mem_of_getElem? (i := 209) (by decide +kernel)⟩
theorem lw_p9 : lw_okq (⟨"HullOffsets$Grid", "cell", "(III)I"⟩, 5) := ⟨⟨by decide +kernel, by decide +kernel⟩, List.mem_of_getElem? (i := 18) (by decide +kernel), List.mem_of_getElem? (i := 212) (by decide +kernel), List.mem_of_getElem? (i := 213) (by decide +kernel)⟩
theorem lw_p10 : lw_okq (⟨"HullOffsets$Line", "bendAt", "(I)I"⟩, 2) := ⟨⟨by decide +kernel, by decide +kernel⟩, List.mem_of_getElem? (i := 50) (by decide +kernel), List.mem_of_getElem? (i := 217) (by decide +kernel), List.mem_of_getElem? (i := 218) (by decide +kernel)⟩
theorem lw_p11 : lw_okq (⟨"HullOffsets$Line", "jumpAt", "(I)I"⟩, 2) := ⟨⟨by decide +kernel, by decide +kernel⟩, List.mem_of_getElem? (i := 50) (by decide +kernel), List.mem_of_getElem? (i := 225) (by decide +kernel), List.mem_of_getElem? (i := 226) (by decide +kernel)⟩
theorem lw_p12 : lw_okq (⟨"HullOffsets$Line", "farthestJump", "()I"⟩, 2) := ⟨⟨by decide +kernel, by decide +kernel⟩, List.mem_of_getElem? (i := 50) (by decide +kernel), List.mem_of_getElem? (i := 234) (by decide +kernel), List.mem_of_getElem? (i := 235) (by decide +kernel)⟩
theorem lw_p13 : lw_okq (⟨"HullOffsets$Line", "firstJumpThatFar", "(I)I"⟩, 2) := ⟨⟨by decide +kernel, by decide +kernel⟩, List.mem_of_getElem? (i := 50) (by decide +kernel), List.mem_of_getElem? (i := 245) (by decide +kernel), List.mem_of_getElem? (i := 246) (by decide +kernel)⟩
theorem lw_p14 : lw_okq (⟨"HullOffsets$Line", "countJumpsBeyond", "(I)I"⟩, 2) := ⟨⟨by decide +kernel, by decide +kernel⟩, List.mem_of_getElem? (i := 50) (by decide +kernel), List.mem_of_getElem? (i := 253) (by decide +kernel), List.mem_of_getElem? (i := 254) (by decide +kernel)⟩
theorem lw_p15 : lw_okq (⟨"HullOffsets", "seekLeast", "(II)I"⟩, 7) := ⟨⟨by decide +kernel, by decide +kernel⟩, List.mem_of_getElem? (i := 10) (by decide +kernel), List.mem_of_getElem? (i := 262) (by decide +kernel), List.mem_of_getElem? (i := 263) (by decide +kernel)⟩
def lw_privs_1 : List (MethodName × Nat) := [(⟨"HullOffsets$Grid", "renew", "(II)V"⟩, 5), (⟨"HullOffsets$Grid", "hasPoint", "(II)Z"⟩, 5), (⟨"HullOffsets$Grid", "put", "(II)I"⟩, 5), (⟨"HullOffsets$Grid", "movedBy", "(I)I"⟩, 5), (⟨"HullOffsets", "refusalOfLine", "(II)I"⟩, 7), (⟨"HullOffsets$Grid", "linesOf", "(I)I"⟩, 5), (⟨"HullOffsets", "takeLine", "(II)V"⟩, 7), (⟨"HullOffsets$Grid", "layOut", "(IILHullOffsets$Line;)V"⟩, 5), (⟨"HullOffsets$Grid", "pointsOf", "(I)I"⟩, 5), (⟨"HullOffsets$Grid", "cell", "(III)I"⟩, 5), (⟨"HullOffsets$Line", "bendAt", "(I)I"⟩, 2), (⟨"HullOffsets$Line", "jumpAt", "(I)I"⟩, 2), (⟨"HullOffsets$Line", "farthestJump", "()I"⟩, 2), (⟨"HullOffsets$Line", "firstJumpThatFar", "(I)I"⟩, 2), (⟨"HullOffsets$Line", "countJumpsBeyond", "(I)I"⟩, 2), (⟨"HullOffsets", "seekLeast", "(II)I"⟩, 7)]
theorem lw_r1 : ∀ q ∈ lw_privs_1, lw_okq q := List.forall_mem_cons.mpr ⟨lw_p0, List.forall_mem_cons.mpr ⟨lw_p1, List.forall_mem_cons.mpr ⟨lw_p2, List.forall_mem_cons.mpr ⟨lw_p3, List.forall_mem_cons.mpr ⟨lw_p4, List.forall_mem_cons.mpr ⟨lw_p5, List.forall_mem_cons.mpr ⟨lw_p6, List.forall_mem_cons.mpr ⟨lw_p7, List.forall_mem_cons.mpr ⟨lw_p8, List.forall_mem_cons.mpr ⟨lw_p9, List.forall_mem_cons.mpr ⟨lw_p10, List.forall_mem_cons.mpr ⟨lw_p11, List.forall_mem_cons.mpr ⟨lw_p12, List.forall_mem_cons.mpr ⟨lw_p13, List.forall_mem_cons.mpr ⟨lw_p14, List.forall_mem_cons.mpr ⟨lw_p15, fun _ h => absurd h List.not_mem_nil⟩⟩⟩⟩⟩⟩⟩⟩⟩⟩⟩⟩⟩⟩⟩⟩
theorem lw_p16 : lw_okq (⟨"HullOffsets$LeastMoves", "stay", "()V"⟩, 7) := ⟨⟨by decide +kernel, by decide +kernel⟩, List.mem_of_getElem? (i := 67) (by decide +kernel), List.mem_of_getElem? (i := 266) (by decide +kernel), List.mem_of_getElem? (i := 267) (by decide +kernel)⟩
theorem lw_p17 : lw_okq (⟨"HullOffsets$LeastMoves", "place", "(III)V"⟩, 7) := ⟨⟨by decide +kernel, by decide +kernel⟩, List.mem_of_getElem? (i := 67) (by decide +kernel), List.mem_of_getElem? (i := 271) (by decide +kernel), List.mem_of_getElem? (i := 272) (by decide +kernel)⟩
theorem lw_p18 : lw_okq (⟨"HullOffsets$LeastMoves", "seek", "(II)I"⟩, 7) := ⟨⟨by decide +kernel, by decide +kernel⟩, List.mem_of_getElem? (i := 67) (by decide +kernel), List.mem_of_getElem? (i := 279) (by decide +kernel), List.mem_of_getElem? (i := 280) (by decide +kernel)⟩
theorem lw_p19 : lw_okq (⟨"HullOffsets$LeastMoves", "keepFewest", "(I)V"⟩, 7) := ⟨⟨by decide +kernel, by decide +kernel⟩, List.mem_of_getElem? (i := 67) (by decide +kernel), List.mem_of_getElem? (i := 283) (by decide +kernel), List.mem_of_getElem? (i := 284) (by decide +kernel)⟩
theorem lw_p20 : lw_okq (⟨"HullOffsets$LeastMoves", "slot", "(IIII)I"⟩, 7) := ⟨⟨by decide +kernel, by decide +kernel⟩, List.mem_of_getElem? (i := 67) (by decide +kernel), List.mem_of_getElem? (i := 287) (by decide +kernel), List.mem_of_getElem? (i := 288) (by decide +kernel)⟩
theorem lw_p21 : lw_okq (⟨"HullOffsets$LeastMoves", "fewestFrom", "(IIII)I"⟩, 7) := ⟨⟨by decide +kernel, by decide +kernel⟩, List.mem_of_getElem? (i := 67) (by decide +kernel), List.mem_of_getElem? (i := 291) (by decide +kernel), List.mem_of_getElem? (i := 292) (by decide +kernel)⟩
theorem lw_p22 : lw_okq (⟨"HullOffsets$LeastMoves", "jumpUnmoved", "(IIII)I"⟩, 7) := ⟨⟨by decide +kernel, by decide +kernel⟩, List.mem_of_getElem? (i := 67) (by decide +kernel), List.mem_of_getElem? (i := 295) (by decide +kernel), List.mem_of_getElem? (i := 296) (by decide +kernel)⟩
theorem lw_p23 : lw_okq (⟨"HullOffsets$LeastMoves", "lastFit", "(II)I"⟩, 7) := ⟨⟨by decide +kernel, by decide +kernel⟩, List.mem_of_getElem? (i := 67) (by decide +kernel), List.mem_of_getElem? (i := 299) (by decide +kernel), List.mem_of_getElem? (i := 300) (by decide +kernel)⟩
theorem lw_p24 : lw_okq (⟨"HullOffsets$LeastMoves", "firstFit", "(II)I"⟩, 7) := ⟨⟨by decide +kernel, by decide +kernel⟩, List.mem_of_getElem? (i := 67) (by decide +kernel), List.mem_of_getElem? (i := 303) (by decide +kernel), List.mem_of_getElem? (i := 304) (by decide +kernel)⟩
theorem lw_p25 : lw_okq (⟨"HullOffsets$LeastMoves", "firstLeading", "(IIII)I"⟩, 7) := ⟨⟨by decide +kernel, by decide +kernel⟩, List.mem_of_getElem? (i := 67) (by decide +kernel), List.mem_of_getElem? (i := 308) (by decide +kernel), List.mem_of_getElem? (i := 309) (by decide +kernel)⟩
theorem lw_p26 : lw_okq (⟨"HullOffsets$LeastMoves", "moveOf", "(I)I"⟩, 7) := ⟨⟨by decide +kernel, by decide +kernel⟩, List.mem_of_getElem? (i := 67) (by decide +kernel), List.mem_of_getElem? (i := 312) (by decide +kernel), List.mem_of_getElem? (i := 313) (by decide +kernel)⟩
theorem lw_p27 : lw_okq (⟨"HullOffsets", "addMoves", "(II)V"⟩, 7) := ⟨⟨by decide +kernel, by decide +kernel⟩, List.mem_of_getElem? (i := 10) (by decide +kernel), List.mem_of_getElem? (i := 320) (by decide +kernel), List.mem_of_getElem? (i := 321) (by decide +kernel)⟩
theorem lw_p28 : lw_okq (⟨"HullOffsets", "roundChanges", "()Z"⟩, 7) := ⟨⟨by decide +kernel, by decide +kernel⟩, List.mem_of_getElem? (i := 10) (by decide +kernel), List.mem_of_getElem? (i := 328) (by decide +kernel), List.mem_of_getElem? (i := 329) (by decide +kernel)⟩
theorem lw_p29 : lw_okq (⟨"HullOffsets", "areaInSixths", "(II)I"⟩, 7) := ⟨⟨by decide +kernel, by decide +kernel⟩, List.mem_of_getElem? (i := 10) (by decide +kernel), List.mem_of_getElem? (i := 344) (by decide +kernel), List.mem_of_getElem? (i := 345) (by decide +kernel)⟩
theorem lw_p30 : lw_okq (⟨"HullOffsets$Heights", "measure", "(LHullOffsets$Grid;II)V"⟩, 2) := ⟨⟨by decide +kernel, by decide +kernel⟩, List.mem_of_getElem? (i := 95) (by decide +kernel), List.mem_of_getElem? (i := 371) (by decide +kernel), List.mem_of_getElem? (i := 372) (by decide +kernel)⟩
theorem lw_p31 : lw_okq (⟨"HullOffsets$Heights", "isThere", "(I)Z"⟩, 2) := ⟨⟨by decide +kernel, by decide +kernel⟩, List.mem_of_getElem? (i := 95) (by decide +kernel), List.mem_of_getElem? (i := 376) (by decide +kernel), List.mem_of_getElem? (i := 377) (by decide +kernel)⟩
def lw_privs_2 : List (MethodName × Nat) := [(⟨"HullOffsets$LeastMoves", "stay", "()V"⟩, 7), (⟨"HullOffsets$LeastMoves", "place", "(III)V"⟩, 7), (⟨"HullOffsets$LeastMoves", "seek", "(II)I"⟩, 7), (⟨"HullOffsets$LeastMoves", "keepFewest", "(I)V"⟩, 7), (⟨"HullOffsets$LeastMoves", "slot", "(IIII)I"⟩, 7), (⟨"HullOffsets$LeastMoves", "fewestFrom", "(IIII)I"⟩, 7), (⟨"HullOffsets$LeastMoves", "jumpUnmoved", "(IIII)I"⟩, 7), (⟨"HullOffsets$LeastMoves", "lastFit", "(II)I"⟩, 7), (⟨"HullOffsets$LeastMoves", "firstFit", "(II)I"⟩, 7), (⟨"HullOffsets$LeastMoves", "firstLeading", "(IIII)I"⟩, 7), (⟨"HullOffsets$LeastMoves", "moveOf", "(I)I"⟩, 7), (⟨"HullOffsets", "addMoves", "(II)V"⟩, 7), (⟨"HullOffsets", "roundChanges", "()Z"⟩, 7), (⟨"HullOffsets", "areaInSixths", "(II)I"⟩, 7), (⟨"HullOffsets$Heights", "measure", "(LHullOffsets$Grid;II)V"⟩, 2), (⟨"HullOffsets$Heights", "isThere", "(I)Z"⟩, 2)]
theorem lw_r2 : ∀ q ∈ lw_privs_2, lw_okq q := List.forall_mem_cons.mpr ⟨lw_p16, List.forall_mem_cons.mpr ⟨lw_p17, List.forall_mem_cons.mpr ⟨lw_p18, List.forall_mem_cons.mpr ⟨lw_p19, List.forall_mem_cons.mpr ⟨lw_p20, List.forall_mem_cons.mpr ⟨lw_p21, List.forall_mem_cons.mpr ⟨lw_p22, List.forall_mem_cons.mpr ⟨lw_p23, List.forall_mem_cons.mpr ⟨lw_p24, List.forall_mem_cons.mpr ⟨lw_p25, List.forall_mem_cons.mpr ⟨lw_p26, List.forall_mem_cons.mpr ⟨lw_p27, List.forall_mem_cons.mpr ⟨lw_p28, List.forall_mem_cons.mpr ⟨lw_p29, List.forall_mem_cons.mpr ⟨lw_p30, List.forall_mem_cons.mpr ⟨lw_p31, fun _ h => absurd h List.not_mem_nil⟩⟩⟩⟩⟩⟩⟩⟩⟩⟩⟩⟩⟩⟩⟩⟩
theorem lw_p32 : lw_okq (⟨"HullOffsets$Heights", "countBreaks", "(LHullOffsets$Grid;II)I"⟩, 2) := ⟨⟨by decide +kernel, by decide +kernel⟩, List.mem_of_getElem? (i := 95) (by decide +kernel), List.mem_of_getElem? (i := 384) (by decide +kernel), List.mem_of_getElem? (i := 385) (by decide +kernel)⟩
theorem lw_p33 : lw_okq (⟨"HullOffsets$Heights", "isBreak", "(II)Z"⟩, 2) := ⟨⟨by decide +kernel, by decide +kernel⟩, List.mem_of_getElem? (i := 95) (by decide +kernel), List.mem_of_getElem? (i := 389) (by decide +kernel), List.mem_of_getElem? (i := 390) (by decide +kernel)⟩
theorem lw_p34 : lw_okq (⟨"HullOffsets$Grid", "broadest", "()I"⟩, 5) := ⟨⟨by decide +kernel, by decide +kernel⟩, List.mem_of_getElem? (i := 18) (by decide +kernel), List.mem_of_getElem? (i := 403) (by decide +kernel), List.mem_of_getElem? (i := 404) (by decide +kernel)⟩
theorem lw_p35 : lw_okq (⟨"HullOffsets$Grid", "countHeld", "()I"⟩, 5) := ⟨⟨by decide +kernel, by decide +kernel⟩, List.mem_of_getElem? (i := 18) (by decide +kernel), List.mem_of_getElem? (i := 412) (by decide +kernel), List.mem_of_getElem? (i := 413) (by decide +kernel)⟩
theorem lw_p36 : lw_okq (⟨"HullOffsets", "countUnfair", "()I"⟩, 7) := ⟨⟨by decide +kernel, by decide +kernel⟩, List.mem_of_getElem? (i := 10) (by decide +kernel), List.mem_of_getElem? (i := 416) (by decide +kernel), List.mem_of_getElem? (i := 417) (by decide +kernel)⟩
theorem lw_p37 : lw_okq (⟨"HullOffsets$Grid", "farFromPuts", "()I"⟩, 5) := ⟨⟨by decide +kernel, by decide +kernel⟩, List.mem_of_getElem? (i := 18) (by decide +kernel), List.mem_of_getElem? (i := 420) (by decide +kernel), List.mem_of_getElem? (i := 421) (by decide +kernel)⟩
theorem lw_p38 : lw_okq (⟨"HullOffsetsModel", "isPoint", "(II)Z"⟩, 22) := ⟨⟨by decide +kernel, by decide +kernel⟩, List.mem_of_getElem? (i := 426) (by decide +kernel), List.mem_of_getElem? (i := 514) (by decide +kernel), List.mem_of_getElem? (i := 515) (by decide +kernel)⟩
theorem lw_p39 : lw_okq (⟨"HullOffsetsModel", "barred", "(IIII)I"⟩, 22) := ⟨⟨by decide +kernel, by decide +kernel⟩, List.mem_of_getElem? (i := 426) (by decide +kernel), List.mem_of_getElem? (i := 540) (by decide +kernel), List.mem_of_getElem? (i := 541) (by decide +kernel)⟩
theorem lw_p40 : lw_okq (⟨"HullOffsetsModel", "isLine", "(II)Z"⟩, 22) := ⟨⟨by decide +kernel, by decide +kernel⟩, List.mem_of_getElem? (i := 426) (by decide +kernel), List.mem_of_getElem? (i := 547) (by decide +kernel), List.mem_of_getElem? (i := 548) (by decide +kernel)⟩
theorem lw_p41 : lw_okq (⟨"HullOffsetsModel", "linesOf", "(I)I"⟩, 22) := ⟨⟨by decide +kernel, by decide +kernel⟩, List.mem_of_getElem? (i := 426) (by decide +kernel), List.mem_of_getElem? (i := 551) (by decide +kernel), List.mem_of_getElem? (i := 552) (by decide +kernel)⟩
theorem lw_p42 : lw_okq (⟨"HullOffsetsModel", "lays", "(II)V"⟩, 22) := ⟨⟨by decide +kernel, by decide +kernel⟩, List.mem_of_getElem? (i := 426) (by decide +kernel), List.mem_of_getElem? (i := 555) (by decide +kernel), List.mem_of_getElem? (i := 556) (by decide +kernel)⟩
theorem lw_p43 : lw_okq (⟨"HullOffsetsModel", "bendAt", "(I)I"⟩, 22) := ⟨⟨by decide +kernel, by decide +kernel⟩, List.mem_of_getElem? (i := 426) (by decide +kernel), List.mem_of_getElem? (i := 559) (by decide +kernel), List.mem_of_getElem? (i := 560) (by decide +kernel)⟩
theorem lw_p44 : lw_okq (⟨"HullOffsetsModel", "jumpAt", "(I)I"⟩, 22) := ⟨⟨by decide +kernel, by decide +kernel⟩, List.mem_of_getElem? (i := 426) (by decide +kernel), List.mem_of_getElem? (i := 567) (by decide +kernel), List.mem_of_getElem? (i := 568) (by decide +kernel)⟩
theorem lw_p45 : lw_okq (⟨"HullOffsetsModel", "roughNow", "()I"⟩, 22) := ⟨⟨by decide +kernel, by decide +kernel⟩, List.mem_of_getElem? (i := 426) (by decide +kernel), List.mem_of_getElem? (i := 582) (by decide +kernel), List.mem_of_getElem? (i := 583) (by decide +kernel)⟩
theorem lw_p46 : lw_okq (⟨"HullOffsetsModel", "findLeast", "()Z"⟩, 22) := ⟨⟨by decide +kernel, by decide +kernel⟩, List.mem_of_getElem? (i := 426) (by decide +kernel), List.mem_of_getElem? (i := 591) (by decide +kernel), List.mem_of_getElem? (i := 592) (by decide +kernel)⟩
theorem lw_p47 : lw_okq (⟨"HullOffsetsModel", "findNeeds", "()V"⟩, 22) := ⟨⟨by decide +kernel, by decide +kernel⟩, List.mem_of_getElem? (i := 426) (by decide +kernel), List.mem_of_getElem? (i := 595) (by decide +kernel), List.mem_of_getElem? (i := 596) (by decide +kernel)⟩
def lw_privs_3 : List (MethodName × Nat) := [(⟨"HullOffsets$Heights", "countBreaks", "(LHullOffsets$Grid;II)I"⟩, 2), (⟨"HullOffsets$Heights", "isBreak", "(II)Z"⟩, 2), (⟨"HullOffsets$Grid", "broadest", "()I"⟩, 5), (⟨"HullOffsets$Grid", "countHeld", "()I"⟩, 5), (⟨"HullOffsets", "countUnfair", "()I"⟩, 7), (⟨"HullOffsets$Grid", "farFromPuts", "()I"⟩, 5), (⟨"HullOffsetsModel", "isPoint", "(II)Z"⟩, 22), (⟨"HullOffsetsModel", "barred", "(IIII)I"⟩, 22), (⟨"HullOffsetsModel", "isLine", "(II)Z"⟩, 22), (⟨"HullOffsetsModel", "linesOf", "(I)I"⟩, 22), (⟨"HullOffsetsModel", "lays", "(II)V"⟩, 22), (⟨"HullOffsetsModel", "bendAt", "(I)I"⟩, 22), (⟨"HullOffsetsModel", "jumpAt", "(I)I"⟩, 22), (⟨"HullOffsetsModel", "roughNow", "()I"⟩, 22), (⟨"HullOffsetsModel", "findLeast", "()Z"⟩, 22), (⟨"HullOffsetsModel", "findNeeds", "()V"⟩, 22)]
theorem lw_r3 : ∀ q ∈ lw_privs_3, lw_okq q := List.forall_mem_cons.mpr ⟨lw_p32, List.forall_mem_cons.mpr ⟨lw_p33, List.forall_mem_cons.mpr ⟨lw_p34, List.forall_mem_cons.mpr ⟨lw_p35, List.forall_mem_cons.mpr ⟨lw_p36, List.forall_mem_cons.mpr ⟨lw_p37, List.forall_mem_cons.mpr ⟨lw_p38, List.forall_mem_cons.mpr ⟨lw_p39, List.forall_mem_cons.mpr ⟨lw_p40, List.forall_mem_cons.mpr ⟨lw_p41, List.forall_mem_cons.mpr ⟨lw_p42, List.forall_mem_cons.mpr ⟨lw_p43, List.forall_mem_cons.mpr ⟨lw_p44, List.forall_mem_cons.mpr ⟨lw_p45, List.forall_mem_cons.mpr ⟨lw_p46, List.forall_mem_cons.mpr ⟨lw_p47, fun _ h => absurd h List.not_mem_nil⟩⟩⟩⟩⟩⟩⟩⟩⟩⟩⟩⟩⟩⟩⟩⟩
theorem lw_p48 : lw_okq (⟨"HullOffsetsModel", "may", "(II)Z"⟩, 22) := ⟨⟨by decide +kernel, by decide +kernel⟩, List.mem_of_getElem? (i := 426) (by decide +kernel), List.mem_of_getElem? (i := 599) (by decide +kernel), List.mem_of_getElem? (i := 600) (by decide +kernel)⟩
theorem lw_p49 : lw_okq (⟨"HullOffsetsModel", "needFrom", "(IIII)I"⟩, 22) := ⟨⟨by decide +kernel, by decide +kernel⟩, List.mem_of_getElem? (i := 426) (by decide +kernel), List.mem_of_getElem? (i := 604) (by decide +kernel), List.mem_of_getElem? (i := 605) (by decide +kernel)⟩
theorem lw_p50 : lw_okq (⟨"HullOffsetsModel", "isFair", "(IIIII)Z"⟩, 22) := ⟨⟨by decide +kernel, by decide +kernel⟩, List.mem_of_getElem? (i := 426) (by decide +kernel), List.mem_of_getElem? (i := 608) (by decide +kernel), List.mem_of_getElem? (i := 609) (by decide +kernel)⟩
theorem lw_p51 : lw_okq (⟨"HullOffsetsModel", "begins", "()Z"⟩, 22) := ⟨⟨by decide +kernel, by decide +kernel⟩, List.mem_of_getElem? (i := 426) (by decide +kernel), List.mem_of_getElem? (i := 615) (by decide +kernel), List.mem_of_getElem? (i := 616) (by decide +kernel)⟩
theorem lw_p52 : lw_okq (⟨"HullOffsetsModel", "nextMove", "(I)I"⟩, 22) := ⟨⟨by decide +kernel, by decide +kernel⟩, List.mem_of_getElem? (i := 426) (by decide +kernel), List.mem_of_getElem? (i := 619) (by decide +kernel), List.mem_of_getElem? (i := 620) (by decide +kernel)⟩
theorem lw_p53 : lw_okq (⟨"HullOffsetsModel", "fairs", "(II)Z"⟩, 22) := ⟨⟨by decide +kernel, by decide +kernel⟩, List.mem_of_getElem? (i := 426) (by decide +kernel), List.mem_of_getElem? (i := 627) (by decide +kernel), List.mem_of_getElem? (i := 628) (by decide +kernel)⟩
theorem lw_p54 : lw_okq (⟨"HullOffsetsModel", "round", "()Z"⟩, 22) := ⟨⟨by decide +kernel, by decide +kernel⟩, List.mem_of_getElem? (i := 426) (by decide +kernel), List.mem_of_getElem? (i := 636) (by decide +kernel), List.mem_of_getElem? (i := 637) (by decide +kernel)⟩
theorem lw_p55 : lw_okq (⟨"HullOffsetsModel", "sumOf", "(II)J"⟩, 22) := ⟨⟨by decide +kernel, by decide +kernel⟩, List.mem_of_getElem? (i := 426) (by decide +kernel), List.mem_of_getElem? (i := 652) (by decide +kernel), List.mem_of_getElem? (i := 653) (by decide +kernel)⟩
theorem lw_p56 : lw_okq (⟨"HullOffsetsModel", "sixths", "(I)J"⟩, 22) := ⟨⟨by decide +kernel, by decide +kernel⟩, List.mem_of_getElem? (i := 426) (by decide +kernel), List.mem_of_getElem? (i := 656) (by decide +kernel), List.mem_of_getElem? (i := 657) (by decide +kernel)⟩
theorem lw_p57 : lw_okq (⟨"HullOffsetsModel", "findHeight", "(II)Z"⟩, 22) := ⟨⟨by decide +kernel, by decide +kernel⟩, List.mem_of_getElem? (i := 426) (by decide +kernel), List.mem_of_getElem? (i := 681) (by decide +kernel), List.mem_of_getElem? (i := 682) (by decide +kernel)⟩
theorem lw_p58 : lw_okq (⟨"HullOffsetsModel", "breaksAt", "(I)I"⟩, 22) := ⟨⟨by decide +kernel, by decide +kernel⟩, List.mem_of_getElem? (i := 426) (by decide +kernel), List.mem_of_getElem? (i := 689) (by decide +kernel), List.mem_of_getElem? (i := 690) (by decide +kernel)⟩
theorem lw_p59 : lw_okq (⟨"HullOffsetsModel", "isBreak", "(I)Z"⟩, 22) := ⟨⟨by decide +kernel, by decide +kernel⟩, List.mem_of_getElem? (i := 426) (by decide +kernel), List.mem_of_getElem? (i := 693) (by decide +kernel), List.mem_of_getElem? (i := 694) (by decide +kernel)⟩
theorem lw_p60 : lw_okq (⟨"HullOffsetsModel", "manyHeld", "()I"⟩, 22) := ⟨⟨by decide +kernel, by decide +kernel⟩, List.mem_of_getElem? (i := 426) (by decide +kernel), List.mem_of_getElem? (i := 707) (by decide +kernel), List.mem_of_getElem? (i := 708) (by decide +kernel)⟩
theorem lw_p61 : lw_okq (⟨"HullOffsetsModel", "manyRough", "()I"⟩, 22) := ⟨⟨by decide +kernel, by decide +kernel⟩, List.mem_of_getElem? (i := 426) (by decide +kernel), List.mem_of_getElem? (i := 711) (by decide +kernel), List.mem_of_getElem? (i := 712) (by decide +kernel)⟩
theorem lw_p62 : lw_okq (⟨"HullOffsetsModel", "farOff", "()I"⟩, 22) := ⟨⟨by decide +kernel, by decide +kernel⟩, List.mem_of_getElem? (i := 426) (by decide +kernel), List.mem_of_getElem? (i := 715) (by decide +kernel), List.mem_of_getElem? (i := 716) (by decide +kernel)⟩
def lw_privs_4 : List (MethodName × Nat) := [(⟨"HullOffsetsModel", "may", "(II)Z"⟩, 22), (⟨"HullOffsetsModel", "needFrom", "(IIII)I"⟩, 22), (⟨"HullOffsetsModel", "isFair", "(IIIII)Z"⟩, 22), (⟨"HullOffsetsModel", "begins", "()Z"⟩, 22), (⟨"HullOffsetsModel", "nextMove", "(I)I"⟩, 22), (⟨"HullOffsetsModel", "fairs", "(II)Z"⟩, 22), (⟨"HullOffsetsModel", "round", "()Z"⟩, 22), (⟨"HullOffsetsModel", "sumOf", "(II)J"⟩, 22), (⟨"HullOffsetsModel", "sixths", "(I)J"⟩, 22), (⟨"HullOffsetsModel", "findHeight", "(II)Z"⟩, 22), (⟨"HullOffsetsModel", "breaksAt", "(I)I"⟩, 22), (⟨"HullOffsetsModel", "isBreak", "(I)Z"⟩, 22), (⟨"HullOffsetsModel", "manyHeld", "()I"⟩, 22), (⟨"HullOffsetsModel", "manyRough", "()I"⟩, 22), (⟨"HullOffsetsModel", "farOff", "()I"⟩, 22)]
theorem lw_r4 : ∀ q ∈ lw_privs_4, lw_okq q := List.forall_mem_cons.mpr ⟨lw_p48, List.forall_mem_cons.mpr ⟨lw_p49, List.forall_mem_cons.mpr ⟨lw_p50, List.forall_mem_cons.mpr ⟨lw_p51, List.forall_mem_cons.mpr ⟨lw_p52, List.forall_mem_cons.mpr ⟨lw_p53, List.forall_mem_cons.mpr ⟨lw_p54, List.forall_mem_cons.mpr ⟨lw_p55, List.forall_mem_cons.mpr ⟨lw_p56, List.forall_mem_cons.mpr ⟨lw_p57, List.forall_mem_cons.mpr ⟨lw_p58, List.forall_mem_cons.mpr ⟨lw_p59, List.forall_mem_cons.mpr ⟨lw_p60, List.forall_mem_cons.mpr ⟨lw_p61, List.forall_mem_cons.mpr ⟨lw_p62, fun _ h => absurd h List.not_mem_nil⟩⟩⟩⟩⟩⟩⟩⟩⟩⟩⟩⟩⟩⟩⟩
def lw_privs : List (MethodName × Nat) := lw_privs_1 ++ (lw_privs_2 ++ (lw_privs_3 ++ (lw_privs_4)))
def lw_tbl : List Cond := k2_sels lw_privs ++ tables_1
theorem lw_privs_ok : ∀ q ∈ lw_privs, lw_okq q := by
  show ∀ q ∈ lw_privs_1 ++ (lw_privs_2 ++ (lw_privs_3 ++ (lw_privs_4))), lw_okq q
  exact List.forall_mem_append.mpr ⟨lw_r1, List.forall_mem_append.mpr ⟨lw_r2, List.forall_mem_append.mpr ⟨lw_r3, lw_r4⟩⟩⟩
end
section
def RX0 : String := "HullOffsets$Grid"
def TX0 : u_T := fun k => match k with
  | 0 => ("HullOffsets$Grid", "offsets", "[I", true)
  | 1 => ("HullOffsets$Grid", "puts", "[I", true)
  | 2 => ("HullOffsets$Grid", "held", "[Z", true)
  | 3 => ("HullOffsets$Grid", "stations", "I", false)
  | _ => ("HullOffsets$Grid", "lines", "I", false)
def tyX0 : Nat → FieldType := fun k => match k with
  | 0 => .array .int
  | 1 => .array .int
  | 2 => .array .boolean
  | 3 => .int
  | _ => .int
abbrev wsX00 : List Cond := u_ws RX0 TX0 5
theorem nmX0 : ∀ a, a < 5 → ∀ b, b < 5 → a ≠ b → (TX0 a).2.1 ≠ (TX0 b).2.1 := by decide +kernel
theorem tyX0_ok : ∀ k, k < 5 → parseFieldDescriptor (TX0 k).2.2.1 = some (tyX0 k) := by decide +kernel
abbrev cX0_init : ByteArray := prog_2_method_1_code
def yX0_init : MethodName := ⟨RX0, "<init>", "()V"⟩
abbrev cX0_renew : ByteArray := prog_2_method_2_code
def yX0_renew : MethodName := ⟨RX0, "renew", "(II)V"⟩
abbrev cX0_put : ByteArray := prog_2_method_3_code
def yX0_put : MethodName := ⟨RX0, "put", "(II)I"⟩
abbrev cX0_hasPoint : ByteArray := prog_2_method_4_code
def yX0_hasPoint : MethodName := ⟨RX0, "hasPoint", "(II)Z"⟩
abbrev cX0_linesOf : ByteArray := prog_2_method_5_code
def yX0_linesOf : MethodName := ⟨RX0, "linesOf", "(I)I"⟩
abbrev cX0_pointsOf : ByteArray := prog_2_method_6_code
def yX0_pointsOf : MethodName := ⟨RX0, "pointsOf", "(I)I"⟩
abbrev cX0_cell : ByteArray := prog_2_method_7_code
def yX0_cell : MethodName := ⟨RX0, "cell", "(III)I"⟩
abbrev cX0_layOut : ByteArray := prog_2_method_8_code
def yX0_layOut : MethodName := ⟨RX0, "layOut", "(IILHullOffsets$Line;)V"⟩
abbrev cX0_movedBy : ByteArray := prog_2_method_9_code
def yX0_movedBy : MethodName := ⟨RX0, "movedBy", "(I)I"⟩
abbrev cX0_farFromPuts : ByteArray := prog_2_method_10_code
def yX0_farFromPuts : MethodName := ⟨RX0, "farFromPuts", "()I"⟩
abbrev cX0_countHeld : ByteArray := prog_2_method_11_code
def yX0_countHeld : MethodName := ⟨RX0, "countHeld", "()I"⟩
abbrev cX0_broadest : ByteArray := prog_2_method_12_code
def yX0_broadest : MethodName := ⟨RX0, "broadest", "()I"⟩
def RX1 : String := "HullOffsets$Heights"
def TX1 : u_T := fun k => match k with
  | 0 => ("HullOffsets$Heights", "upper", "[J", true)
  | _ => ("HullOffsets$Heights", "lower", "[J", true)
def tyX1 : Nat → FieldType := fun k => match k with
  | 0 => .array .long
  | _ => .array .long
abbrev wsX10 : List Cond := u_ws RX1 TX1 2
theorem nmX1 : ∀ a, a < 2 → ∀ b, b < 2 → a ≠ b → (TX1 a).2.1 ≠ (TX1 b).2.1 := by decide +kernel
theorem tyX1_ok : ∀ k, k < 2 → parseFieldDescriptor (TX1 k).2.2.1 = some (tyX1 k) := by decide +kernel
abbrev cX1_init : ByteArray := prog_3_method_1_code
def yX1_init : MethodName := ⟨RX1, "<init>", "()V"⟩
abbrev cX1_isThere : ByteArray := prog_3_method_2_code
def yX1_isThere : MethodName := ⟨RX1, "isThere", "(I)Z"⟩
abbrev cX1_measure : ByteArray := prog_3_method_3_code
def yX1_measure : MethodName := ⟨RX1, "measure", "(LHullOffsets$Grid;II)V"⟩
abbrev cX1_countBreaks : ByteArray := prog_3_method_4_code
def yX1_countBreaks : MethodName := ⟨RX1, "countBreaks", "(LHullOffsets$Grid;II)I"⟩
abbrev cX1_isBreak : ByteArray := prog_3_method_5_code
def yX1_isBreak : MethodName := ⟨RX1, "isBreak", "(II)Z"⟩
def RX2 : String := "HullOffsets$LeastMoves"
def TX2 : u_T := fun k => match k with
  | 0 => ("HullOffsets$LeastMoves", "from", "[I", true)
  | 1 => ("HullOffsets$LeastMoves", "low", "[I", true)
  | 2 => ("HullOffsets$LeastMoves", "top", "[I", true)
  | 3 => ("HullOffsets$LeastMoves", "moves", "[I", true)
  | 4 => ("HullOffsets$LeastMoves", "fewest", "[I", true)
  | 5 => ("HullOffsets$LeastMoves", "points", "I", false)
  | _ => ("HullOffsets$LeastMoves", "bound", "I", false)
def tyX2 : Nat → FieldType := fun k => match k with
  | 0 => .array .int
  | 1 => .array .int
  | 2 => .array .int
  | 3 => .array .int
  | 4 => .array .int
  | 5 => .int
  | _ => .int
abbrev wsX20 : List Cond := u_ws RX2 TX2 7
theorem nmX2 : ∀ a, a < 7 → ∀ b, b < 7 → a ≠ b → (TX2 a).2.1 ≠ (TX2 b).2.1 := by decide +kernel
theorem tyX2_ok : ∀ k, k < 7 → parseFieldDescriptor (TX2 k).2.2.1 = some (tyX2 k) := by decide +kernel
abbrev cX2_init : ByteArray := prog_4_method_1_code
def yX2_init : MethodName := ⟨RX2, "<init>", "()V"⟩
abbrev cX2_place : ByteArray := prog_4_method_2_code
def yX2_place : MethodName := ⟨RX2, "place", "(III)V"⟩
abbrev cX2_stay : ByteArray := prog_4_method_3_code
def yX2_stay : MethodName := ⟨RX2, "stay", "()V"⟩
abbrev cX2_moveOf : ByteArray := prog_4_method_4_code
def yX2_moveOf : MethodName := ⟨RX2, "moveOf", "(I)I"⟩
abbrev cX2_seek : ByteArray := prog_4_method_5_code
def yX2_seek : MethodName := ⟨RX2, "seek", "(II)I"⟩
abbrev cX2_keepFewest : ByteArray := prog_4_method_6_code
def yX2_keepFewest : MethodName := ⟨RX2, "keepFewest", "(I)V"⟩
abbrev cX2_fewestFrom : ByteArray := prog_4_method_7_code
def yX2_fewestFrom : MethodName := ⟨RX2, "fewestFrom", "(IIII)I"⟩
abbrev cX2_firstLeading : ByteArray := prog_4_method_8_code
def yX2_firstLeading : MethodName := ⟨RX2, "firstLeading", "(IIII)I"⟩
abbrev cX2_jumpUnmoved : ByteArray := prog_4_method_9_code
def yX2_jumpUnmoved : MethodName := ⟨RX2, "jumpUnmoved", "(IIII)I"⟩
abbrev cX2_firstFit : ByteArray := prog_4_method_10_code
def yX2_firstFit : MethodName := ⟨RX2, "firstFit", "(II)I"⟩
abbrev cX2_lastFit : ByteArray := prog_4_method_11_code
def yX2_lastFit : MethodName := ⟨RX2, "lastFit", "(II)I"⟩
abbrev cX2_slot : ByteArray := prog_4_method_12_code
def yX2_slot : MethodName := ⟨RX2, "slot", "(IIII)I"⟩
def RX3 : String := "HullOffsets$Line"
def TX3 : u_T := fun k => match k with
  | 0 => ("HullOffsets$Line", "offsets", "[I", true)
  | _ => ("HullOffsets$Line", "points", "I", false)
def tyX3 : Nat → FieldType := fun k => match k with
  | 0 => .array .int
  | _ => .int
abbrev wsX30 : List Cond := u_ws RX3 TX3 2
theorem nmX3 : ∀ a, a < 2 → ∀ b, b < 2 → a ≠ b → (TX3 a).2.1 ≠ (TX3 b).2.1 := by decide +kernel
theorem tyX3_ok : ∀ k, k < 2 → parseFieldDescriptor (TX3 k).2.2.1 = some (tyX3 k) := by decide +kernel
abbrev cX3_init : ByteArray := prog_5_method_1_code
def yX3_init : MethodName := ⟨RX3, "<init>", "()V"⟩
abbrev cX3_bendAt : ByteArray := prog_5_method_2_code
def yX3_bendAt : MethodName := ⟨RX3, "bendAt", "(I)I"⟩
abbrev cX3_jumpAt : ByteArray := prog_5_method_3_code
def yX3_jumpAt : MethodName := ⟨RX3, "jumpAt", "(I)I"⟩
abbrev cX3_farthestJump : ByteArray := prog_5_method_4_code
def yX3_farthestJump : MethodName := ⟨RX3, "farthestJump", "()I"⟩
abbrev cX3_firstJumpThatFar : ByteArray := prog_5_method_5_code
def yX3_firstJumpThatFar : MethodName := ⟨RX3, "firstJumpThatFar", "(I)I"⟩
abbrev cX3_countJumpsBeyond : ByteArray := prog_5_method_6_code
def yX3_countJumpsBeyond : MethodName := ⟨RX3, "countJumpsBeyond", "(I)I"⟩
def RX4 : String := "HullOffsets"
def TX4 : u_T := fun k => match k with
  | 0 => ("HullOffsets", "grid", "LHullOffsets$Grid;", true)
  | 1 => ("HullOffsets", "taken", "LHullOffsets$Line;", true)
  | 2 => ("HullOffsets", "search", "LHullOffsets$LeastMoves;", true)
  | 3 => ("HullOffsets", "heights", "LHullOffsets$Heights;", true)
  | 4 => ("HullOffsets", "settings", "[I", true)
  | 5 => ("HullOffsets", "asBegun", "[I", true)
  | _ => ("HullOffsets", "values", "[I", true)
def tyX4 : Nat → FieldType := fun k => match k with
  | 0 => .object "HullOffsets$Grid"
  | 1 => .object "HullOffsets$Line"
  | 2 => .object "HullOffsets$LeastMoves"
  | 3 => .object "HullOffsets$Heights"
  | 4 => .array .int
  | 5 => .array .int
  | _ => .array .int
abbrev wsX40 : List Cond := u_ws RX4 TX4 7
theorem nmX4 : ∀ a, a < 7 → ∀ b, b < 7 → a ≠ b → (TX4 a).2.1 ≠ (TX4 b).2.1 := by decide +kernel
theorem tyX4_ok : ∀ k, k < 7 → parseFieldDescriptor (TX4 k).2.2.1 = some (tyX4 k) := by decide +kernel
abbrev cX4_init : ByteArray := prog_1_method_1_code
def yX4_init : MethodName := ⟨RX4, "<init>", "()V"⟩
abbrev cX4_hull : ByteArray := prog_1_method_2_code
def yX4_hull : MethodName := ⟨RX4, "hull", "(II)I"⟩
abbrev cX4_offset : ByteArray := prog_1_method_3_code
def yX4_offset : MethodName := ⟨RX4, "offset", "(III)I"⟩
abbrev cX4_hold : ByteArray := prog_1_method_4_code
def yX4_hold : MethodName := ⟨RX4, "hold", "(IIZ)I"⟩
abbrev cX4_setting : ByteArray := prog_1_method_5_code
def yX4_setting : MethodName := ⟨RX4, "setting", "(II)I"⟩
abbrev cX4_ofPoint : ByteArray := prog_1_method_6_code
def yX4_ofPoint : MethodName := ⟨RX4, "ofPoint", "(III)I"⟩
abbrev cX4_bend : ByteArray := prog_1_method_7_code
def yX4_bend : MethodName := ⟨RX4, "bend", "(III)I"⟩
abbrev cX4_jump : ByteArray := prog_1_method_8_code
def yX4_jump : MethodName := ⟨RX4, "jump", "(III)I"⟩
abbrev cX4_roughest : ByteArray := prog_1_method_9_code
def yX4_roughest : MethodName := ⟨RX4, "roughest", "(I)I"⟩
abbrev cX4_rough : ByteArray := prog_1_method_10_code
def yX4_rough : MethodName := ⟨RX4, "rough", "(II)I"⟩
abbrev cX4_least : ByteArray := prog_1_method_11_code
def yX4_least : MethodName := ⟨RX4, "least", "(III)I"⟩
abbrev cX4_fair : ByteArray := prog_1_method_12_code
def yX4_fair : MethodName := ⟨RX4, "fair", "(II)I"⟩
abbrev cX4_rounds : ByteArray := prog_1_method_13_code
def yX4_rounds : MethodName := ⟨RX4, "rounds", "(I)I"⟩
abbrev cX4_back : ByteArray := prog_1_method_14_code
def yX4_back : MethodName := ⟨RX4, "back", "()I"⟩
abbrev cX4_area : ByteArray := prog_1_method_15_code
def yX4_area : MethodName := ⟨RX4, "area", "(III)J"⟩
abbrev cX4_centre : ByteArray := prog_1_method_16_code
def yX4_centre : MethodName := ⟨RX4, "centre", "(III)J"⟩
abbrev cX4_volume : ByteArray := prog_1_method_17_code
def yX4_volume : MethodName := ⟨RX4, "volume", "(II)J"⟩
abbrev cX4_height : ByteArray := prog_1_method_18_code
def yX4_height : MethodName := ⟨RX4, "height", "(III)J"⟩
abbrev cX4_breaks : ByteArray := prog_1_method_19_code
def yX4_breaks : MethodName := ⟨RX4, "breaks", "(I)I"⟩
abbrev cX4_worst : ByteArray := prog_1_method_20_code
def yX4_worst : MethodName := ⟨RX4, "worst", "()I"⟩
abbrev cX4_many : ByteArray := prog_1_method_21_code
def yX4_many : MethodName := ⟨RX4, "many", "(I)I"⟩
abbrev cX4_isNot : ByteArray := prog_1_method_22_code
def yX4_isNot : MethodName := ⟨RX4, "isNot", "(III)Z"⟩
abbrev cX4_cellOf : ByteArray := prog_1_method_23_code
def yX4_cellOf : MethodName := ⟨RX4, "cellOf", "(II)I"⟩
abbrev cX4_refusalOfLine : ByteArray := prog_1_method_24_code
def yX4_refusalOfLine : MethodName := ⟨RX4, "refusalOfLine", "(II)I"⟩
abbrev cX4_takeLine : ByteArray := prog_1_method_25_code
def yX4_takeLine : MethodName := ⟨RX4, "takeLine", "(II)V"⟩
abbrev cX4_countUnfair : ByteArray := prog_1_method_26_code
def yX4_countUnfair : MethodName := ⟨RX4, "countUnfair", "()I"⟩
abbrev cX4_seekLeast : ByteArray := prog_1_method_27_code
def yX4_seekLeast : MethodName := ⟨RX4, "seekLeast", "(II)I"⟩
abbrev cX4_addMoves : ByteArray := prog_1_method_28_code
def yX4_addMoves : MethodName := ⟨RX4, "addMoves", "(II)V"⟩
abbrev cX4_roundChanges : ByteArray := prog_1_method_29_code
def yX4_roundChanges : MethodName := ⟨RX4, "roundChanges", "()Z"⟩
abbrev cX4_areaInSixths : ByteArray := prog_1_method_30_code
def yX4_areaInSixths : MethodName := ⟨RX4, "areaInSixths", "(II)I"⟩
abbrev cX4_sumInSixths : ByteArray := prog_1_method_31_code
def yX4_sumInSixths : MethodName := ⟨RX4, "sumInSixths", "([II)I"⟩
abbrev cX4_toldShare : ByteArray := prog_1_method_32_code
def yX4_toldShare : MethodName := ⟨RX4, "toldShare", "(JJI)J"⟩
abbrev cX4_commonDivisor : ByteArray := prog_1_method_33_code
def yX4_commonDivisor : MethodName := ⟨RX4, "commonDivisor", "(JJ)J"⟩
def RX5 : String := "HullOffsetsModel"
def TX5 : u_T := fun k => match k with
  | 0 => ("HullOffsetsModel", "stations", "I", false)
  | 1 => ("HullOffsetsModel", "waters", "I", false)
  | 2 => ("HullOffsetsModel", "bound", "I", false)
  | 3 => ("HullOffsetsModel", "reach", "I", false)
  | 4 => ("HullOffsetsModel", "longBy", "I", false)
  | 5 => ("HullOffsetsModel", "highBy", "I", false)
  | 6 => ("HullOffsetsModel", "offset", "[I", true)
  | 7 => ("HullOffsetsModel", "put", "[I", true)
  | 8 => ("HullOffsetsModel", "held", "[Z", true)
  | 9 => ("HullOffsetsModel", "points", "I", false)
  | 10 => ("HullOffsetsModel", "pointOf", "[I", true)
  | 11 => ("HullOffsetsModel", "at", "[I", true)
  | 12 => ("HullOffsetsModel", "need", "[I", true)
  | 13 => ("HullOffsetsModel", "move", "[I", true)
  | 14 => ("HullOffsetsModel", "together", "I", false)
  | 15 => ("HullOffsetsModel", "before", "[I", true)
  | 16 => ("HullOffsetsModel", "row", "[J", true)
  | 17 => ("HullOffsetsModel", "sums", "[J", true)
  | 18 => ("HullOffsetsModel", "upper", "J", false)
  | 19 => ("HullOffsetsModel", "lower", "J", false)
  | 20 => ("HullOffsetsModel", "uppers", "[J", true)
  | _ => ("HullOffsetsModel", "lowers", "[J", true)
def tyX5 : Nat → FieldType := fun k => match k with
  | 0 => .int
  | 1 => .int
  | 2 => .int
  | 3 => .int
  | 4 => .int
  | 5 => .int
  | 6 => .array .int
  | 7 => .array .int
  | 8 => .array .boolean
  | 9 => .int
  | 10 => .array .int
  | 11 => .array .int
  | 12 => .array .int
  | 13 => .array .int
  | 14 => .int
  | 15 => .array .int
  | 16 => .array .long
  | 17 => .array .long
  | 18 => .long
  | 19 => .long
  | 20 => .array .long
  | _ => .array .long
abbrev wsX50 : List Cond := u_ws RX5 TX5 22
theorem nmX5 : ∀ a, a < 22 → ∀ b, b < 22 → a ≠ b → (TX5 a).2.1 ≠ (TX5 b).2.1 := by decide +kernel
theorem tyX5_ok : ∀ k, k < 22 → parseFieldDescriptor (TX5 k).2.2.1 = some (tyX5 k) := by decide +kernel
abbrev cX5_init : ByteArray := prog_7_method_1_code
def yX5_init : MethodName := ⟨RX5, "<init>", "()V"⟩
abbrev cX5_within : ByteArray := prog_7_method_2_code
def yX5_within : MethodName := ⟨RX5, "within", "(JJJ)Z"⟩
abbrev cX5_far : ByteArray := prog_7_method_3_code
def yX5_far : MethodName := ⟨RX5, "far", "(I)I"⟩
abbrev cX5_isPoint : ByteArray := prog_7_method_4_code
def yX5_isPoint : MethodName := ⟨RX5, "isPoint", "(II)Z"⟩
abbrev cX5_isOffset : ByteArray := prog_7_method_5_code
def yX5_isOffset : MethodName := ⟨RX5, "isOffset", "(I)Z"⟩
abbrev cX5_hull : ByteArray := prog_7_method_6_code
def yX5_hull : MethodName := ⟨RX5, "hull", "(II)I"⟩
abbrev cX5_offset : ByteArray := prog_7_method_7_code
def yX5_offset : MethodName := ⟨RX5, "offset", "(III)I"⟩
abbrev cX5_hold : ByteArray := prog_7_method_8_code
def yX5_hold : MethodName := ⟨RX5, "hold", "(IIZ)I"⟩
abbrev cX5_setting : ByteArray := prog_7_method_9_code
def yX5_setting : MethodName := ⟨RX5, "setting", "(II)I"⟩
abbrev cX5_ofPoint : ByteArray := prog_7_method_10_code
def yX5_ofPoint : MethodName := ⟨RX5, "ofPoint", "(III)I"⟩
abbrev cX5_isView : ByteArray := prog_7_method_11_code
def yX5_isView : MethodName := ⟨RX5, "isView", "(I)Z"⟩
abbrev cX5_linesOf : ByteArray := prog_7_method_12_code
def yX5_linesOf : MethodName := ⟨RX5, "linesOf", "(I)I"⟩
abbrev cX5_isLine : ByteArray := prog_7_method_13_code
def yX5_isLine : MethodName := ⟨RX5, "isLine", "(II)Z"⟩
abbrev cX5_lays : ByteArray := prog_7_method_14_code
def yX5_lays : MethodName := ⟨RX5, "lays", "(II)V"⟩
abbrev cX5_bendAt : ByteArray := prog_7_method_15_code
def yX5_bendAt : MethodName := ⟨RX5, "bendAt", "(I)I"⟩
abbrev cX5_jumpAt : ByteArray := prog_7_method_16_code
def yX5_jumpAt : MethodName := ⟨RX5, "jumpAt", "(I)I"⟩
abbrev cX5_barred : ByteArray := prog_7_method_17_code
def yX5_barred : MethodName := ⟨RX5, "barred", "(IIII)I"⟩
abbrev cX5_bend : ByteArray := prog_7_method_18_code
def yX5_bend : MethodName := ⟨RX5, "bend", "(III)I"⟩
abbrev cX5_jump : ByteArray := prog_7_method_19_code
def yX5_jump : MethodName := ⟨RX5, "jump", "(III)I"⟩
abbrev cX5_roughest : ByteArray := prog_7_method_20_code
def yX5_roughest : MethodName := ⟨RX5, "roughest", "(I)I"⟩
abbrev cX5_roughNow : ByteArray := prog_7_method_21_code
def yX5_roughNow : MethodName := ⟨RX5, "roughNow", "()I"⟩
abbrev cX5_rough : ByteArray := prog_7_method_22_code
def yX5_rough : MethodName := ⟨RX5, "rough", "(II)I"⟩
abbrev cX5_may : ByteArray := prog_7_method_23_code
def yX5_may : MethodName := ⟨RX5, "may", "(II)Z"⟩
abbrev cX5_triple : ByteArray := prog_7_method_24_code
def yX5_triple : MethodName := ⟨RX5, "triple", "(III)I"⟩
abbrev cX5_isFair : ByteArray := prog_7_method_25_code
def yX5_isFair : MethodName := ⟨RX5, "isFair", "(IIIII)Z"⟩
abbrev cX5_needFrom : ByteArray := prog_7_method_26_code
def yX5_needFrom : MethodName := ⟨RX5, "needFrom", "(IIII)I"⟩
abbrev cX5_findNeeds : ByteArray := prog_7_method_27_code
def yX5_findNeeds : MethodName := ⟨RX5, "findNeeds", "()V"⟩
abbrev cX5_begins : ByteArray := prog_7_method_28_code
def yX5_begins : MethodName := ⟨RX5, "begins", "()Z"⟩
abbrev cX5_nextMove : ByteArray := prog_7_method_29_code
def yX5_nextMove : MethodName := ⟨RX5, "nextMove", "(I)I"⟩
abbrev cX5_findLeast : ByteArray := prog_7_method_30_code
def yX5_findLeast : MethodName := ⟨RX5, "findLeast", "()Z"⟩
abbrev cX5_least : ByteArray := prog_7_method_31_code
def yX5_least : MethodName := ⟨RX5, "least", "(III)I"⟩
abbrev cX5_fairs : ByteArray := prog_7_method_32_code
def yX5_fairs : MethodName := ⟨RX5, "fairs", "(II)Z"⟩
abbrev cX5_fair : ByteArray := prog_7_method_33_code
def yX5_fair : MethodName := ⟨RX5, "fair", "(II)I"⟩
abbrev cX5_round : ByteArray := prog_7_method_34_code
def yX5_round : MethodName := ⟨RX5, "round", "()Z"⟩
abbrev cX5_rounds : ByteArray := prog_7_method_35_code
def yX5_rounds : MethodName := ⟨RX5, "rounds", "(I)I"⟩
abbrev cX5_back : ByteArray := prog_7_method_36_code
def yX5_back : MethodName := ⟨RX5, "back", "()I"⟩
abbrev cX5_sixths : ByteArray := prog_7_method_37_code
def yX5_sixths : MethodName := ⟨RX5, "sixths", "(I)J"⟩
abbrev cX5_told : ByteArray := prog_7_method_38_code
def yX5_told : MethodName := ⟨RX5, "told", "(JJI)J"⟩
abbrev cX5_isWhich : ByteArray := prog_7_method_39_code
def yX5_isWhich : MethodName := ⟨RX5, "isWhich", "(I)Z"⟩
abbrev cX5_sumOf : ByteArray := prog_7_method_40_code
def yX5_sumOf : MethodName := ⟨RX5, "sumOf", "(II)J"⟩
abbrev cX5_area : ByteArray := prog_7_method_41_code
def yX5_area : MethodName := ⟨RX5, "area", "(III)J"⟩
abbrev cX5_centre : ByteArray := prog_7_method_42_code
def yX5_centre : MethodName := ⟨RX5, "centre", "(III)J"⟩
abbrev cX5_volume : ByteArray := prog_7_method_43_code
def yX5_volume : MethodName := ⟨RX5, "volume", "(II)J"⟩
abbrev cX5_findHeight : ByteArray := prog_7_method_44_code
def yX5_findHeight : MethodName := ⟨RX5, "findHeight", "(II)Z"⟩
abbrev cX5_isBreadth : ByteArray := prog_7_method_45_code
def yX5_isBreadth : MethodName := ⟨RX5, "isBreadth", "(I)Z"⟩
abbrev cX5_height : ByteArray := prog_7_method_46_code
def yX5_height : MethodName := ⟨RX5, "height", "(III)J"⟩
abbrev cX5_isBreak : ByteArray := prog_7_method_47_code
def yX5_isBreak : MethodName := ⟨RX5, "isBreak", "(I)Z"⟩
abbrev cX5_breaksAt : ByteArray := prog_7_method_48_code
def yX5_breaksAt : MethodName := ⟨RX5, "breaksAt", "(I)I"⟩
abbrev cX5_breaks : ByteArray := prog_7_method_49_code
def yX5_breaks : MethodName := ⟨RX5, "breaks", "(I)I"⟩
abbrev cX5_worst : ByteArray := prog_7_method_50_code
def yX5_worst : MethodName := ⟨RX5, "worst", "()I"⟩
abbrev cX5_manyRough : ByteArray := prog_7_method_51_code
def yX5_manyRough : MethodName := ⟨RX5, "manyRough", "()I"⟩
abbrev cX5_manyHeld : ByteArray := prog_7_method_52_code
def yX5_manyHeld : MethodName := ⟨RX5, "manyHeld", "()I"⟩
abbrev cX5_farOff : ByteArray := prog_7_method_53_code
def yX5_farOff : MethodName := ⟨RX5, "farOff", "()I"⟩
abbrev cX5_many : ByteArray := prog_7_method_54_code
def yX5_many : MethodName := ⟨RX5, "many", "(I)I"⟩
def RL : String := "HullOffsetsLaw"
abbrev cL_law : ByteArray := code
def yL_law : MethodName := ⟨RL, "law", "([I)Z"⟩
abbrev vwCl : List vw_C := [(RX0, TX0, 5), (RX1, TX1, 2), (RX2, TX2, 7), (RX3, TX3, 2), (RX4, TX4, 7), (RX5, TX5, 22)]
end
section
theorem dX0_init_0 : decode cX0_init 0 = .ok (.aload_n 0, 1) := by decide +kernel
theorem dX0_init_1 : decode cX0_init 1 = .ok (.invokespecial 3, 3) := by decide +kernel
theorem dX0_init_4 : decode cX0_init 4 = .ok (.aload_n 0, 1) := by decide +kernel
theorem dX0_init_5 : decode cX0_init 5 = .ok (.bipush 63, 2) := by decide +kernel
theorem dX0_init_7 : decode cX0_init 7 = .ok (.newarray .int, 2) := by decide +kernel
theorem dX0_init_9 : decode cX0_init 9 = .ok (.putfield 9, 3) := by decide +kernel
theorem dX0_init_12 : decode cX0_init 12 = .ok (.aload_n 0, 1) := by decide +kernel
theorem dX0_init_13 : decode cX0_init 13 = .ok (.bipush 63, 2) := by decide +kernel
theorem dX0_init_15 : decode cX0_init 15 = .ok (.newarray .int, 2) := by decide +kernel
theorem dX0_init_17 : decode cX0_init 17 = .ok (.putfield 15, 3) := by decide +kernel
theorem dX0_init_20 : decode cX0_init 20 = .ok (.aload_n 0, 1) := by decide +kernel
theorem dX0_init_21 : decode cX0_init 21 = .ok (.bipush 63, 2) := by decide +kernel
theorem dX0_init_23 : decode cX0_init 23 = .ok (.newarray .boolean, 2) := by decide +kernel
theorem dX0_init_25 : decode cX0_init 25 = .ok (.putfield 18, 3) := by decide +kernel
theorem dX0_init_28 : decode cX0_init 28 = .ok (.return_, 1) := by decide +kernel
theorem dX0_renew_0 : decode cX0_renew 0 = .ok (.aload_n 0, 1) := by decide +kernel
theorem dX0_renew_1 : decode cX0_renew 1 = .ok (.iload_n 1, 1) := by decide +kernel
theorem dX0_renew_2 : decode cX0_renew 2 = .ok (.putfield 22, 3) := by decide +kernel
theorem dX0_renew_5 : decode cX0_renew 5 = .ok (.aload_n 0, 1) := by decide +kernel
theorem dX0_renew_6 : decode cX0_renew 6 = .ok (.iload_n 2, 1) := by decide +kernel
theorem dX0_renew_7 : decode cX0_renew 7 = .ok (.putfield 26, 3) := by decide +kernel
theorem dX0_renew_10 : decode cX0_renew 10 = .ok (.iconst 0, 1) := by decide +kernel
theorem dX0_renew_11 : decode cX0_renew 11 = .ok (.istore_n 3, 1) := by decide +kernel
theorem dX0_renew_12 : decode cX0_renew 12 = .ok (.iload_n 3, 1) := by decide +kernel
theorem dX0_renew_13 : decode cX0_renew 13 = .ok (.bipush 63, 2) := by decide +kernel
theorem dX0_renew_15 : decode cX0_renew 15 = .ok (.if_icmp .ge 30, 3) := by decide +kernel
theorem dX0_renew_18 : decode cX0_renew 18 = .ok (.aload_n 0, 1) := by decide +kernel
theorem dX0_renew_19 : decode cX0_renew 19 = .ok (.getfield 9, 3) := by decide +kernel
theorem dX0_renew_22 : decode cX0_renew 22 = .ok (.iload_n 3, 1) := by decide +kernel
theorem dX0_renew_23 : decode cX0_renew 23 = .ok (.iconst 0, 1) := by decide +kernel
theorem dX0_renew_24 : decode cX0_renew 24 = .ok (.iastore, 1) := by decide +kernel
theorem dX0_renew_25 : decode cX0_renew 25 = .ok (.aload_n 0, 1) := by decide +kernel
theorem dX0_renew_26 : decode cX0_renew 26 = .ok (.getfield 15, 3) := by decide +kernel
theorem dX0_renew_29 : decode cX0_renew 29 = .ok (.iload_n 3, 1) := by decide +kernel
theorem dX0_renew_30 : decode cX0_renew 30 = .ok (.iconst 0, 1) := by decide +kernel
theorem dX0_renew_31 : decode cX0_renew 31 = .ok (.iastore, 1) := by decide +kernel
theorem dX0_renew_32 : decode cX0_renew 32 = .ok (.aload_n 0, 1) := by decide +kernel
theorem dX0_renew_33 : decode cX0_renew 33 = .ok (.getfield 18, 3) := by decide +kernel
theorem dX0_renew_36 : decode cX0_renew 36 = .ok (.iload_n 3, 1) := by decide +kernel
theorem dX0_renew_37 : decode cX0_renew 37 = .ok (.iconst 0, 1) := by decide +kernel
theorem dX0_renew_38 : decode cX0_renew 38 = .ok (.bastore, 1) := by decide +kernel
theorem dX0_renew_39 : decode cX0_renew 39 = .ok (.iinc 3 1, 3) := by decide +kernel
theorem dX0_renew_42 : decode cX0_renew 42 = .ok (.goto (-30), 3) := by decide +kernel
theorem dX0_renew_45 : decode cX0_renew 45 = .ok (.return_, 1) := by decide +kernel
theorem dX0_put_0 : decode cX0_put 0 = .ok (.aload_n 0, 1) := by decide +kernel
theorem dX0_put_1 : decode cX0_put 1 = .ok (.getfield 9, 3) := by decide +kernel
theorem dX0_put_4 : decode cX0_put 4 = .ok (.iload_n 1, 1) := by decide +kernel
theorem dX0_put_5 : decode cX0_put 5 = .ok (.iaload, 1) := by decide +kernel
theorem dX0_put_6 : decode cX0_put 6 = .ok (.istore_n 3, 1) := by decide +kernel
theorem dX0_put_7 : decode cX0_put 7 = .ok (.aload_n 0, 1) := by decide +kernel
theorem dX0_put_8 : decode cX0_put 8 = .ok (.getfield 9, 3) := by decide +kernel
theorem dX0_put_11 : decode cX0_put 11 = .ok (.iload_n 1, 1) := by decide +kernel
theorem dX0_put_12 : decode cX0_put 12 = .ok (.iload_n 2, 1) := by decide +kernel
theorem dX0_put_13 : decode cX0_put 13 = .ok (.iastore, 1) := by decide +kernel
theorem dX0_put_14 : decode cX0_put 14 = .ok (.aload_n 0, 1) := by decide +kernel
theorem dX0_put_15 : decode cX0_put 15 = .ok (.getfield 15, 3) := by decide +kernel
theorem dX0_put_18 : decode cX0_put 18 = .ok (.iload_n 1, 1) := by decide +kernel
theorem dX0_put_19 : decode cX0_put 19 = .ok (.iload_n 2, 1) := by decide +kernel
theorem dX0_put_20 : decode cX0_put 20 = .ok (.iastore, 1) := by decide +kernel
theorem dX0_put_21 : decode cX0_put 21 = .ok (.iload_n 3, 1) := by decide +kernel
theorem dX0_put_22 : decode cX0_put 22 = .ok (.ireturn, 1) := by decide +kernel
theorem dX0_hasPoint_0 : decode cX0_hasPoint 0 = .ok (.iload_n 1, 1) := by decide +kernel
theorem dX0_hasPoint_1 : decode cX0_hasPoint 1 = .ok (.ifCond .lt 27, 3) := by decide +kernel
theorem dX0_hasPoint_4 : decode cX0_hasPoint 4 = .ok (.iload_n 1, 1) := by decide +kernel
theorem dX0_hasPoint_5 : decode cX0_hasPoint 5 = .ok (.aload_n 0, 1) := by decide +kernel
theorem dX0_hasPoint_6 : decode cX0_hasPoint 6 = .ok (.getfield 22, 3) := by decide +kernel
theorem dX0_hasPoint_9 : decode cX0_hasPoint 9 = .ok (.if_icmp .ge 19, 3) := by decide +kernel
theorem dX0_hasPoint_12 : decode cX0_hasPoint 12 = .ok (.iload_n 2, 1) := by decide +kernel
theorem dX0_hasPoint_13 : decode cX0_hasPoint 13 = .ok (.ifCond .lt 15, 3) := by decide +kernel
theorem dX0_hasPoint_16 : decode cX0_hasPoint 16 = .ok (.iload_n 2, 1) := by decide +kernel
theorem dX0_hasPoint_17 : decode cX0_hasPoint 17 = .ok (.aload_n 0, 1) := by decide +kernel
theorem dX0_hasPoint_18 : decode cX0_hasPoint 18 = .ok (.getfield 26, 3) := by decide +kernel
theorem dX0_hasPoint_21 : decode cX0_hasPoint 21 = .ok (.if_icmp .ge 7, 3) := by decide +kernel
theorem dX0_hasPoint_24 : decode cX0_hasPoint 24 = .ok (.iconst 1, 1) := by decide +kernel
theorem dX0_hasPoint_25 : decode cX0_hasPoint 25 = .ok (.goto 4, 3) := by decide +kernel
theorem dX0_hasPoint_28 : decode cX0_hasPoint 28 = .ok (.iconst 0, 1) := by decide +kernel
theorem dX0_hasPoint_29 : decode cX0_hasPoint 29 = .ok (.ireturn, 1) := by decide +kernel
theorem dX0_linesOf_0 : decode cX0_linesOf 0 = .ok (.iload_n 1, 1) := by decide +kernel
theorem dX0_linesOf_1 : decode cX0_linesOf 1 = .ok (.iconst 1, 1) := by decide +kernel
theorem dX0_linesOf_2 : decode cX0_linesOf 2 = .ok (.if_icmp .ne 10, 3) := by decide +kernel
theorem dX0_linesOf_5 : decode cX0_linesOf 5 = .ok (.aload_n 0, 1) := by decide +kernel
theorem dX0_linesOf_6 : decode cX0_linesOf 6 = .ok (.getfield 22, 3) := by decide +kernel
theorem dX0_linesOf_9 : decode cX0_linesOf 9 = .ok (.goto 7, 3) := by decide +kernel
theorem dX0_linesOf_12 : decode cX0_linesOf 12 = .ok (.aload_n 0, 1) := by decide +kernel
theorem dX0_linesOf_13 : decode cX0_linesOf 13 = .ok (.getfield 26, 3) := by decide +kernel
theorem dX0_linesOf_16 : decode cX0_linesOf 16 = .ok (.ireturn, 1) := by decide +kernel
theorem dX0_pointsOf_0 : decode cX0_pointsOf 0 = .ok (.iload_n 1, 1) := by decide +kernel
theorem dX0_pointsOf_1 : decode cX0_pointsOf 1 = .ok (.iconst 1, 1) := by decide +kernel
theorem dX0_pointsOf_2 : decode cX0_pointsOf 2 = .ok (.if_icmp .ne 10, 3) := by decide +kernel
theorem dX0_pointsOf_5 : decode cX0_pointsOf 5 = .ok (.aload_n 0, 1) := by decide +kernel
theorem dX0_pointsOf_6 : decode cX0_pointsOf 6 = .ok (.getfield 26, 3) := by decide +kernel
theorem dX0_pointsOf_9 : decode cX0_pointsOf 9 = .ok (.goto 7, 3) := by decide +kernel
theorem dX0_pointsOf_12 : decode cX0_pointsOf 12 = .ok (.aload_n 0, 1) := by decide +kernel
theorem dX0_pointsOf_13 : decode cX0_pointsOf 13 = .ok (.getfield 22, 3) := by decide +kernel
theorem dX0_pointsOf_16 : decode cX0_pointsOf 16 = .ok (.ireturn, 1) := by decide +kernel
theorem dX0_cell_0 : decode cX0_cell 0 = .ok (.iload_n 1, 1) := by decide +kernel
theorem dX0_cell_1 : decode cX0_cell 1 = .ok (.iconst 1, 1) := by decide +kernel
theorem dX0_cell_2 : decode cX0_cell 2 = .ok (.if_icmp .ne 11, 3) := by decide +kernel
theorem dX0_cell_5 : decode cX0_cell 5 = .ok (.iload_n 2, 1) := by decide +kernel
theorem dX0_cell_6 : decode cX0_cell 6 = .ok (.iload_n 3, 1) := by decide +kernel
theorem dX0_cell_7 : decode cX0_cell 7 = .ok (.invokestatic 29, 3) := by decide +kernel
theorem dX0_cell_10 : decode cX0_cell 10 = .ok (.goto 8, 3) := by decide +kernel
theorem dX0_cell_13 : decode cX0_cell 13 = .ok (.iload_n 3, 1) := by decide +kernel
theorem dX0_cell_14 : decode cX0_cell 14 = .ok (.iload_n 2, 1) := by decide +kernel
theorem dX0_cell_15 : decode cX0_cell 15 = .ok (.invokestatic 29, 3) := by decide +kernel
theorem dX0_cell_18 : decode cX0_cell 18 = .ok (.ireturn, 1) := by decide +kernel
theorem dX0_layOut_0 : decode cX0_layOut 0 = .ok (.aload_n 3, 1) := by decide +kernel
theorem dX0_layOut_1 : decode cX0_layOut 1 = .ok (.aload_n 0, 1) := by decide +kernel
theorem dX0_layOut_2 : decode cX0_layOut 2 = .ok (.iload_n 1, 1) := by decide +kernel
theorem dX0_layOut_3 : decode cX0_layOut 3 = .ok (.invokevirtual 33, 3) := by decide +kernel
theorem dX0_layOut_6 : decode cX0_layOut 6 = .ok (.putfield 37, 3) := by decide +kernel
theorem dX0_layOut_9 : decode cX0_layOut 9 = .ok (.iconst 0, 1) := by decide +kernel
theorem dX0_layOut_10 : decode cX0_layOut 10 = .ok (.istore 4, 2) := by decide +kernel
theorem dX0_layOut_12 : decode cX0_layOut 12 = .ok (.iload 4, 2) := by decide +kernel
theorem dX0_layOut_14 : decode cX0_layOut 14 = .ok (.aload_n 3, 1) := by decide +kernel
theorem dX0_layOut_15 : decode cX0_layOut 15 = .ok (.getfield 37, 3) := by decide +kernel
theorem dX0_layOut_18 : decode cX0_layOut 18 = .ok (.if_icmp .ge 29, 3) := by decide +kernel
theorem dX0_layOut_21 : decode cX0_layOut 21 = .ok (.aload_n 3, 1) := by decide +kernel
theorem dX0_layOut_22 : decode cX0_layOut 22 = .ok (.getfield 42, 3) := by decide +kernel
theorem dX0_layOut_25 : decode cX0_layOut 25 = .ok (.iload 4, 2) := by decide +kernel
theorem dX0_layOut_27 : decode cX0_layOut 27 = .ok (.aload_n 0, 1) := by decide +kernel
theorem dX0_layOut_28 : decode cX0_layOut 28 = .ok (.getfield 9, 3) := by decide +kernel
theorem dX0_layOut_31 : decode cX0_layOut 31 = .ok (.aload_n 0, 1) := by decide +kernel
theorem dX0_layOut_32 : decode cX0_layOut 32 = .ok (.iload_n 1, 1) := by decide +kernel
theorem dX0_layOut_33 : decode cX0_layOut 33 = .ok (.iload_n 2, 1) := by decide +kernel
theorem dX0_layOut_34 : decode cX0_layOut 34 = .ok (.iload 4, 2) := by decide +kernel
theorem dX0_layOut_36 : decode cX0_layOut 36 = .ok (.invokevirtual 43, 3) := by decide +kernel
theorem dX0_layOut_39 : decode cX0_layOut 39 = .ok (.iaload, 1) := by decide +kernel
theorem dX0_layOut_40 : decode cX0_layOut 40 = .ok (.iastore, 1) := by decide +kernel
theorem dX0_layOut_41 : decode cX0_layOut 41 = .ok (.iinc 4 1, 3) := by decide +kernel
theorem dX0_layOut_44 : decode cX0_layOut 44 = .ok (.goto (-32), 3) := by decide +kernel
theorem dX0_layOut_47 : decode cX0_layOut 47 = .ok (.return_, 1) := by decide +kernel
theorem dX0_movedBy_0 : decode cX0_movedBy 0 = .ok (.aload_n 0, 1) := by decide +kernel
theorem dX0_movedBy_1 : decode cX0_movedBy 1 = .ok (.getfield 9, 3) := by decide +kernel
theorem dX0_movedBy_4 : decode cX0_movedBy 4 = .ok (.iload_n 1, 1) := by decide +kernel
theorem dX0_movedBy_5 : decode cX0_movedBy 5 = .ok (.iaload, 1) := by decide +kernel
theorem dX0_movedBy_6 : decode cX0_movedBy 6 = .ok (.aload_n 0, 1) := by decide +kernel
theorem dX0_movedBy_7 : decode cX0_movedBy 7 = .ok (.getfield 15, 3) := by decide +kernel
theorem dX0_movedBy_10 : decode cX0_movedBy 10 = .ok (.iload_n 1, 1) := by decide +kernel
theorem dX0_movedBy_11 : decode cX0_movedBy 11 = .ok (.iaload, 1) := by decide +kernel
theorem dX0_movedBy_12 : decode cX0_movedBy 12 = .ok (.isub, 1) := by decide +kernel
theorem dX0_movedBy_13 : decode cX0_movedBy 13 = .ok (.ireturn, 1) := by decide +kernel
theorem dX0_farFromPuts_0 : decode cX0_farFromPuts 0 = .ok (.iconst 0, 1) := by decide +kernel
theorem dX0_farFromPuts_1 : decode cX0_farFromPuts 1 = .ok (.istore_n 1, 1) := by decide +kernel
theorem dX0_farFromPuts_2 : decode cX0_farFromPuts 2 = .ok (.iconst 0, 1) := by decide +kernel
theorem dX0_farFromPuts_3 : decode cX0_farFromPuts 3 = .ok (.istore_n 2, 1) := by decide +kernel
theorem dX0_farFromPuts_4 : decode cX0_farFromPuts 4 = .ok (.iload_n 2, 1) := by decide +kernel
theorem dX0_farFromPuts_5 : decode cX0_farFromPuts 5 = .ok (.bipush 63, 2) := by decide +kernel
theorem dX0_farFromPuts_7 : decode cX0_farFromPuts 7 = .ok (.if_icmp .ge 20, 3) := by decide +kernel
theorem dX0_farFromPuts_10 : decode cX0_farFromPuts 10 = .ok (.iload_n 1, 1) := by decide +kernel
theorem dX0_farFromPuts_11 : decode cX0_farFromPuts 11 = .ok (.aload_n 0, 1) := by decide +kernel
theorem dX0_farFromPuts_12 : decode cX0_farFromPuts 12 = .ok (.iload_n 2, 1) := by decide +kernel
theorem dX0_farFromPuts_13 : decode cX0_farFromPuts 13 = .ok (.invokevirtual 47, 3) := by decide +kernel
theorem dX0_farFromPuts_16 : decode cX0_farFromPuts 16 = .ok (.invokestatic 50, 3) := by decide +kernel
theorem dX0_farFromPuts_19 : decode cX0_farFromPuts 19 = .ok (.iadd, 1) := by decide +kernel
theorem dX0_farFromPuts_20 : decode cX0_farFromPuts 20 = .ok (.istore_n 1, 1) := by decide +kernel
theorem dX0_farFromPuts_21 : decode cX0_farFromPuts 21 = .ok (.iinc 2 1, 3) := by decide +kernel
theorem dX0_farFromPuts_24 : decode cX0_farFromPuts 24 = .ok (.goto (-20), 3) := by decide +kernel
theorem dX0_farFromPuts_27 : decode cX0_farFromPuts 27 = .ok (.iload_n 1, 1) := by decide +kernel
theorem dX0_farFromPuts_28 : decode cX0_farFromPuts 28 = .ok (.ireturn, 1) := by decide +kernel
theorem dX0_countHeld_0 : decode cX0_countHeld 0 = .ok (.iconst 0, 1) := by decide +kernel
theorem dX0_countHeld_1 : decode cX0_countHeld 1 = .ok (.istore_n 1, 1) := by decide +kernel
theorem dX0_countHeld_2 : decode cX0_countHeld 2 = .ok (.iconst 0, 1) := by decide +kernel
theorem dX0_countHeld_3 : decode cX0_countHeld 3 = .ok (.istore_n 2, 1) := by decide +kernel
theorem dX0_countHeld_4 : decode cX0_countHeld 4 = .ok (.iload_n 2, 1) := by decide +kernel
theorem dX0_countHeld_5 : decode cX0_countHeld 5 = .ok (.bipush 63, 2) := by decide +kernel
theorem dX0_countHeld_7 : decode cX0_countHeld 7 = .ok (.if_icmp .ge 21, 3) := by decide +kernel
theorem dX0_countHeld_10 : decode cX0_countHeld 10 = .ok (.aload_n 0, 1) := by decide +kernel
theorem dX0_countHeld_11 : decode cX0_countHeld 11 = .ok (.getfield 18, 3) := by decide +kernel
theorem dX0_countHeld_14 : decode cX0_countHeld 14 = .ok (.iload_n 2, 1) := by decide +kernel
theorem dX0_countHeld_15 : decode cX0_countHeld 15 = .ok (.baload, 1) := by decide +kernel
theorem dX0_countHeld_16 : decode cX0_countHeld 16 = .ok (.ifCond .eq 6, 3) := by decide +kernel
theorem dX0_countHeld_19 : decode cX0_countHeld 19 = .ok (.iinc 1 1, 3) := by decide +kernel
theorem dX0_countHeld_22 : decode cX0_countHeld 22 = .ok (.iinc 2 1, 3) := by decide +kernel
theorem dX0_countHeld_25 : decode cX0_countHeld 25 = .ok (.goto (-21), 3) := by decide +kernel
theorem dX0_countHeld_28 : decode cX0_countHeld 28 = .ok (.iload_n 1, 1) := by decide +kernel
theorem dX0_countHeld_29 : decode cX0_countHeld 29 = .ok (.ireturn, 1) := by decide +kernel
theorem dX0_broadest_0 : decode cX0_broadest 0 = .ok (.iconst 0, 1) := by decide +kernel
theorem dX0_broadest_1 : decode cX0_broadest 1 = .ok (.istore_n 1, 1) := by decide +kernel
theorem dX0_broadest_2 : decode cX0_broadest 2 = .ok (.iconst 0, 1) := by decide +kernel
theorem dX0_broadest_3 : decode cX0_broadest 3 = .ok (.istore_n 2, 1) := by decide +kernel
theorem dX0_broadest_4 : decode cX0_broadest 4 = .ok (.iload_n 2, 1) := by decide +kernel
theorem dX0_broadest_5 : decode cX0_broadest 5 = .ok (.bipush 63, 2) := by decide +kernel
theorem dX0_broadest_7 : decode cX0_broadest 7 = .ok (.if_icmp .ge 20, 3) := by decide +kernel
theorem dX0_broadest_10 : decode cX0_broadest 10 = .ok (.iload_n 1, 1) := by decide +kernel
theorem dX0_broadest_11 : decode cX0_broadest 11 = .ok (.aload_n 0, 1) := by decide +kernel
theorem dX0_broadest_12 : decode cX0_broadest 12 = .ok (.getfield 9, 3) := by decide +kernel
theorem dX0_broadest_15 : decode cX0_broadest 15 = .ok (.iload_n 2, 1) := by decide +kernel
theorem dX0_broadest_16 : decode cX0_broadest 16 = .ok (.iaload, 1) := by decide +kernel
theorem dX0_broadest_17 : decode cX0_broadest 17 = .ok (.invokestatic 55, 3) := by decide +kernel
theorem dX0_broadest_20 : decode cX0_broadest 20 = .ok (.istore_n 1, 1) := by decide +kernel
theorem dX0_broadest_21 : decode cX0_broadest 21 = .ok (.iinc 2 1, 3) := by decide +kernel
theorem dX0_broadest_24 : decode cX0_broadest 24 = .ok (.goto (-20), 3) := by decide +kernel
theorem dX0_broadest_27 : decode cX0_broadest 27 = .ok (.iload_n 1, 1) := by decide +kernel
theorem dX0_broadest_28 : decode cX0_broadest 28 = .ok (.ireturn, 1) := by decide +kernel
end
section
theorem dX1_init_0 : decode cX1_init 0 = .ok (.aload_n 0, 1) := by decide +kernel
theorem dX1_init_1 : decode cX1_init 1 = .ok (.invokespecial 3, 3) := by decide +kernel
theorem dX1_init_4 : decode cX1_init 4 = .ok (.aload_n 0, 1) := by decide +kernel
theorem dX1_init_5 : decode cX1_init 5 = .ok (.bipush 9, 2) := by decide +kernel
theorem dX1_init_7 : decode cX1_init 7 = .ok (.newarray .long, 2) := by decide +kernel
theorem dX1_init_9 : decode cX1_init 9 = .ok (.putfield 9, 3) := by decide +kernel
theorem dX1_init_12 : decode cX1_init 12 = .ok (.aload_n 0, 1) := by decide +kernel
theorem dX1_init_13 : decode cX1_init 13 = .ok (.bipush 9, 2) := by decide +kernel
theorem dX1_init_15 : decode cX1_init 15 = .ok (.newarray .long, 2) := by decide +kernel
theorem dX1_init_17 : decode cX1_init 17 = .ok (.putfield 15, 3) := by decide +kernel
theorem dX1_init_20 : decode cX1_init 20 = .ok (.return_, 1) := by decide +kernel
theorem dX1_isThere_0 : decode cX1_isThere 0 = .ok (.aload_n 0, 1) := by decide +kernel
theorem dX1_isThere_1 : decode cX1_isThere 1 = .ok (.getfield 15, 3) := by decide +kernel
theorem dX1_isThere_4 : decode cX1_isThere 4 = .ok (.iload_n 1, 1) := by decide +kernel
theorem dX1_isThere_5 : decode cX1_isThere 5 = .ok (.laload, 1) := by decide +kernel
theorem dX1_isThere_6 : decode cX1_isThere 6 = .ok (.lconst 0, 1) := by decide +kernel
theorem dX1_isThere_7 : decode cX1_isThere 7 = .ok (.lcmp, 1) := by decide +kernel
theorem dX1_isThere_8 : decode cX1_isThere 8 = .ok (.ifCond .le 7, 3) := by decide +kernel
theorem dX1_isThere_11 : decode cX1_isThere 11 = .ok (.iconst 1, 1) := by decide +kernel
theorem dX1_isThere_12 : decode cX1_isThere 12 = .ok (.goto 4, 3) := by decide +kernel
theorem dX1_isThere_15 : decode cX1_isThere 15 = .ok (.iconst 0, 1) := by decide +kernel
theorem dX1_isThere_16 : decode cX1_isThere 16 = .ok (.ireturn, 1) := by decide +kernel
theorem dX1_measure_0 : decode cX1_measure 0 = .ok (.iconst 0, 1) := by decide +kernel
theorem dX1_measure_1 : decode cX1_measure 1 = .ok (.istore 4, 2) := by decide +kernel
theorem dX1_measure_3 : decode cX1_measure 3 = .ok (.iload 4, 2) := by decide +kernel
theorem dX1_measure_5 : decode cX1_measure 5 = .ok (.aload_n 1, 1) := by decide +kernel
theorem dX1_measure_6 : decode cX1_measure 6 = .ok (.getfield 18, 3) := by decide +kernel
theorem dX1_measure_9 : decode cX1_measure 9 = .ok (.if_icmp .ge 24, 3) := by decide +kernel
theorem dX1_measure_12 : decode cX1_measure 12 = .ok (.aload_n 1, 1) := by decide +kernel
theorem dX1_measure_13 : decode cX1_measure 13 = .ok (.getfield 24, 3) := by decide +kernel
theorem dX1_measure_16 : decode cX1_measure 16 = .ok (.iload_n 2, 1) := by decide +kernel
theorem dX1_measure_17 : decode cX1_measure 17 = .ok (.iload 4, 2) := by decide +kernel
theorem dX1_measure_19 : decode cX1_measure 19 = .ok (.invokestatic 28, 3) := by decide +kernel
theorem dX1_measure_22 : decode cX1_measure 22 = .ok (.iaload, 1) := by decide +kernel
theorem dX1_measure_23 : decode cX1_measure 23 = .ok (.iload_n 3, 1) := by decide +kernel
theorem dX1_measure_24 : decode cX1_measure 24 = .ok (.if_icmp .ge 9, 3) := by decide +kernel
theorem dX1_measure_27 : decode cX1_measure 27 = .ok (.iinc 4 1, 3) := by decide +kernel
theorem dX1_measure_30 : decode cX1_measure 30 = .ok (.goto (-27), 3) := by decide +kernel
theorem dX1_measure_33 : decode cX1_measure 33 = .ok (.iload 4, 2) := by decide +kernel
theorem dX1_measure_35 : decode cX1_measure 35 = .ok (.aload_n 1, 1) := by decide +kernel
theorem dX1_measure_36 : decode cX1_measure 36 = .ok (.getfield 18, 3) := by decide +kernel
theorem dX1_measure_39 : decode cX1_measure 39 = .ok (.if_icmp .ne 20, 3) := by decide +kernel
theorem dX1_measure_42 : decode cX1_measure 42 = .ok (.aload_n 0, 1) := by decide +kernel
theorem dX1_measure_43 : decode cX1_measure 43 = .ok (.getfield 9, 3) := by decide +kernel
theorem dX1_measure_46 : decode cX1_measure 46 = .ok (.iload_n 2, 1) := by decide +kernel
theorem dX1_measure_47 : decode cX1_measure 47 = .ok (.lconst 0, 1) := by decide +kernel
theorem dX1_measure_48 : decode cX1_measure 48 = .ok (.lastore, 1) := by decide +kernel
theorem dX1_measure_49 : decode cX1_measure 49 = .ok (.aload_n 0, 1) := by decide +kernel
theorem dX1_measure_50 : decode cX1_measure 50 = .ok (.getfield 15, 3) := by decide +kernel
theorem dX1_measure_53 : decode cX1_measure 53 = .ok (.iload_n 2, 1) := by decide +kernel
theorem dX1_measure_54 : decode cX1_measure 54 = .ok (.lconst 0, 1) := by decide +kernel
theorem dX1_measure_55 : decode cX1_measure 55 = .ok (.lastore, 1) := by decide +kernel
theorem dX1_measure_56 : decode cX1_measure 56 = .ok (.goto 86, 3) := by decide +kernel
theorem dX1_measure_59 : decode cX1_measure 59 = .ok (.iload 4, 2) := by decide +kernel
theorem dX1_measure_61 : decode cX1_measure 61 = .ok (.ifCond .ne 20, 3) := by decide +kernel
theorem dX1_measure_64 : decode cX1_measure 64 = .ok (.aload_n 0, 1) := by decide +kernel
theorem dX1_measure_65 : decode cX1_measure 65 = .ok (.getfield 9, 3) := by decide +kernel
theorem dX1_measure_68 : decode cX1_measure 68 = .ok (.iload_n 2, 1) := by decide +kernel
theorem dX1_measure_69 : decode cX1_measure 69 = .ok (.lconst 0, 1) := by decide +kernel
theorem dX1_measure_70 : decode cX1_measure 70 = .ok (.lastore, 1) := by decide +kernel
theorem dX1_measure_71 : decode cX1_measure 71 = .ok (.aload_n 0, 1) := by decide +kernel
theorem dX1_measure_72 : decode cX1_measure 72 = .ok (.getfield 15, 3) := by decide +kernel
theorem dX1_measure_75 : decode cX1_measure 75 = .ok (.iload_n 2, 1) := by decide +kernel
theorem dX1_measure_76 : decode cX1_measure 76 = .ok (.lconst 1, 1) := by decide +kernel
theorem dX1_measure_77 : decode cX1_measure 77 = .ok (.lastore, 1) := by decide +kernel
theorem dX1_measure_78 : decode cX1_measure 78 = .ok (.goto 64, 3) := by decide +kernel
theorem dX1_measure_81 : decode cX1_measure 81 = .ok (.aload_n 1, 1) := by decide +kernel
theorem dX1_measure_82 : decode cX1_measure 82 = .ok (.getfield 24, 3) := by decide +kernel
theorem dX1_measure_85 : decode cX1_measure 85 = .ok (.iload_n 2, 1) := by decide +kernel
theorem dX1_measure_86 : decode cX1_measure 86 = .ok (.iload 4, 2) := by decide +kernel
theorem dX1_measure_88 : decode cX1_measure 88 = .ok (.iconst 1, 1) := by decide +kernel
theorem dX1_measure_89 : decode cX1_measure 89 = .ok (.isub, 1) := by decide +kernel
theorem dX1_measure_90 : decode cX1_measure 90 = .ok (.invokestatic 28, 3) := by decide +kernel
theorem dX1_measure_93 : decode cX1_measure 93 = .ok (.iaload, 1) := by decide +kernel
theorem dX1_measure_94 : decode cX1_measure 94 = .ok (.istore 5, 2) := by decide +kernel
theorem dX1_measure_96 : decode cX1_measure 96 = .ok (.aload_n 0, 1) := by decide +kernel
theorem dX1_measure_97 : decode cX1_measure 97 = .ok (.getfield 15, 3) := by decide +kernel
theorem dX1_measure_100 : decode cX1_measure 100 = .ok (.iload_n 2, 1) := by decide +kernel
theorem dX1_measure_101 : decode cX1_measure 101 = .ok (.aload_n 1, 1) := by decide +kernel
theorem dX1_measure_102 : decode cX1_measure 102 = .ok (.getfield 24, 3) := by decide +kernel
theorem dX1_measure_105 : decode cX1_measure 105 = .ok (.iload_n 2, 1) := by decide +kernel
theorem dX1_measure_106 : decode cX1_measure 106 = .ok (.iload 4, 2) := by decide +kernel
theorem dX1_measure_108 : decode cX1_measure 108 = .ok (.invokestatic 28, 3) := by decide +kernel
theorem dX1_measure_111 : decode cX1_measure 111 = .ok (.iaload, 1) := by decide +kernel
theorem dX1_measure_112 : decode cX1_measure 112 = .ok (.iload 5, 2) := by decide +kernel
theorem dX1_measure_114 : decode cX1_measure 114 = .ok (.isub, 1) := by decide +kernel
theorem dX1_measure_115 : decode cX1_measure 115 = .ok (.i2l, 1) := by decide +kernel
theorem dX1_measure_116 : decode cX1_measure 116 = .ok (.lastore, 1) := by decide +kernel
theorem dX1_measure_117 : decode cX1_measure 117 = .ok (.aload_n 0, 1) := by decide +kernel
theorem dX1_measure_118 : decode cX1_measure 118 = .ok (.getfield 9, 3) := by decide +kernel
theorem dX1_measure_121 : decode cX1_measure 121 = .ok (.iload_n 2, 1) := by decide +kernel
theorem dX1_measure_122 : decode cX1_measure 122 = .ok (.iload 4, 2) := by decide +kernel
theorem dX1_measure_124 : decode cX1_measure 124 = .ok (.iconst 1, 1) := by decide +kernel
theorem dX1_measure_125 : decode cX1_measure 125 = .ok (.isub, 1) := by decide +kernel
theorem dX1_measure_126 : decode cX1_measure 126 = .ok (.i2l, 1) := by decide +kernel
theorem dX1_measure_127 : decode cX1_measure 127 = .ok (.aload_n 0, 1) := by decide +kernel
theorem dX1_measure_128 : decode cX1_measure 128 = .ok (.getfield 15, 3) := by decide +kernel
theorem dX1_measure_131 : decode cX1_measure 131 = .ok (.iload_n 2, 1) := by decide +kernel
theorem dX1_measure_132 : decode cX1_measure 132 = .ok (.laload, 1) := by decide +kernel
theorem dX1_measure_133 : decode cX1_measure 133 = .ok (.lmul, 1) := by decide +kernel
theorem dX1_measure_134 : decode cX1_measure 134 = .ok (.iload_n 3, 1) := by decide +kernel
theorem dX1_measure_135 : decode cX1_measure 135 = .ok (.i2l, 1) := by decide +kernel
theorem dX1_measure_136 : decode cX1_measure 136 = .ok (.ladd, 1) := by decide +kernel
theorem dX1_measure_137 : decode cX1_measure 137 = .ok (.iload 5, 2) := by decide +kernel
theorem dX1_measure_139 : decode cX1_measure 139 = .ok (.i2l, 1) := by decide +kernel
theorem dX1_measure_140 : decode cX1_measure 140 = .ok (.lsub, 1) := by decide +kernel
theorem dX1_measure_141 : decode cX1_measure 141 = .ok (.lastore, 1) := by decide +kernel
theorem dX1_measure_142 : decode cX1_measure 142 = .ok (.return_, 1) := by decide +kernel
theorem dX1_countBreaks_0 : decode cX1_countBreaks 0 = .ok (.iconst 0, 1) := by decide +kernel
theorem dX1_countBreaks_1 : decode cX1_countBreaks 1 = .ok (.istore 4, 2) := by decide +kernel
theorem dX1_countBreaks_3 : decode cX1_countBreaks 3 = .ok (.iload 4, 2) := by decide +kernel
theorem dX1_countBreaks_5 : decode cX1_countBreaks 5 = .ok (.aload_n 1, 1) := by decide +kernel
theorem dX1_countBreaks_6 : decode cX1_countBreaks 6 = .ok (.getfield 32, 3) := by decide +kernel
theorem dX1_countBreaks_9 : decode cX1_countBreaks 9 = .ok (.if_icmp .ge 17, 3) := by decide +kernel
theorem dX1_countBreaks_12 : decode cX1_countBreaks 12 = .ok (.aload_n 0, 1) := by decide +kernel
theorem dX1_countBreaks_13 : decode cX1_countBreaks 13 = .ok (.aload_n 1, 1) := by decide +kernel
theorem dX1_countBreaks_14 : decode cX1_countBreaks 14 = .ok (.iload 4, 2) := by decide +kernel
theorem dX1_countBreaks_16 : decode cX1_countBreaks 16 = .ok (.iload_n 2, 1) := by decide +kernel
theorem dX1_countBreaks_17 : decode cX1_countBreaks 17 = .ok (.invokevirtual 35, 3) := by decide +kernel
theorem dX1_countBreaks_20 : decode cX1_countBreaks 20 = .ok (.iinc 4 1, 3) := by decide +kernel
theorem dX1_countBreaks_23 : decode cX1_countBreaks 23 = .ok (.goto (-20), 3) := by decide +kernel
theorem dX1_countBreaks_26 : decode cX1_countBreaks 26 = .ok (.iconst 0, 1) := by decide +kernel
theorem dX1_countBreaks_27 : decode cX1_countBreaks 27 = .ok (.istore 4, 2) := by decide +kernel
theorem dX1_countBreaks_29 : decode cX1_countBreaks 29 = .ok (.iconst 0, 1) := by decide +kernel
theorem dX1_countBreaks_30 : decode cX1_countBreaks 30 = .ok (.istore 5, 2) := by decide +kernel
theorem dX1_countBreaks_32 : decode cX1_countBreaks 32 = .ok (.iload 5, 2) := by decide +kernel
theorem dX1_countBreaks_34 : decode cX1_countBreaks 34 = .ok (.aload_n 1, 1) := by decide +kernel
theorem dX1_countBreaks_35 : decode cX1_countBreaks 35 = .ok (.getfield 32, 3) := by decide +kernel
theorem dX1_countBreaks_38 : decode cX1_countBreaks 38 = .ok (.iconst 3, 1) := by decide +kernel
theorem dX1_countBreaks_39 : decode cX1_countBreaks 39 = .ok (.isub, 1) := by decide +kernel
theorem dX1_countBreaks_40 : decode cX1_countBreaks 40 = .ok (.if_icmp .ge 22, 3) := by decide +kernel
theorem dX1_countBreaks_43 : decode cX1_countBreaks 43 = .ok (.aload_n 0, 1) := by decide +kernel
theorem dX1_countBreaks_44 : decode cX1_countBreaks 44 = .ok (.iload 5, 2) := by decide +kernel
theorem dX1_countBreaks_46 : decode cX1_countBreaks 46 = .ok (.iload_n 3, 1) := by decide +kernel
theorem dX1_countBreaks_47 : decode cX1_countBreaks 47 = .ok (.invokevirtual 39, 3) := by decide +kernel
theorem dX1_countBreaks_50 : decode cX1_countBreaks 50 = .ok (.ifCond .eq 6, 3) := by decide +kernel
theorem dX1_countBreaks_53 : decode cX1_countBreaks 53 = .ok (.iinc 4 1, 3) := by decide +kernel
theorem dX1_countBreaks_56 : decode cX1_countBreaks 56 = .ok (.iinc 5 1, 3) := by decide +kernel
theorem dX1_countBreaks_59 : decode cX1_countBreaks 59 = .ok (.goto (-27), 3) := by decide +kernel
theorem dX1_countBreaks_62 : decode cX1_countBreaks 62 = .ok (.iload 4, 2) := by decide +kernel
theorem dX1_countBreaks_64 : decode cX1_countBreaks 64 = .ok (.ireturn, 1) := by decide +kernel
theorem dX1_isBreak_0 : decode cX1_isBreak 0 = .ok (.aload_n 0, 1) := by decide +kernel
theorem dX1_isBreak_1 : decode cX1_isBreak 1 = .ok (.iload_n 1, 1) := by decide +kernel
theorem dX1_isBreak_2 : decode cX1_isBreak 2 = .ok (.invokevirtual 43, 3) := by decide +kernel
theorem dX1_isBreak_5 : decode cX1_isBreak 5 = .ok (.ifCond .eq 33, 3) := by decide +kernel
theorem dX1_isBreak_8 : decode cX1_isBreak 8 = .ok (.aload_n 0, 1) := by decide +kernel
theorem dX1_isBreak_9 : decode cX1_isBreak 9 = .ok (.iload_n 1, 1) := by decide +kernel
theorem dX1_isBreak_10 : decode cX1_isBreak 10 = .ok (.iconst 1, 1) := by decide +kernel
theorem dX1_isBreak_11 : decode cX1_isBreak 11 = .ok (.iadd, 1) := by decide +kernel
theorem dX1_isBreak_12 : decode cX1_isBreak 12 = .ok (.invokevirtual 43, 3) := by decide +kernel
theorem dX1_isBreak_15 : decode cX1_isBreak 15 = .ok (.ifCond .eq 23, 3) := by decide +kernel
theorem dX1_isBreak_18 : decode cX1_isBreak 18 = .ok (.aload_n 0, 1) := by decide +kernel
theorem dX1_isBreak_19 : decode cX1_isBreak 19 = .ok (.iload_n 1, 1) := by decide +kernel
theorem dX1_isBreak_20 : decode cX1_isBreak 20 = .ok (.iconst 2, 1) := by decide +kernel
theorem dX1_isBreak_21 : decode cX1_isBreak 21 = .ok (.iadd, 1) := by decide +kernel
theorem dX1_isBreak_22 : decode cX1_isBreak 22 = .ok (.invokevirtual 43, 3) := by decide +kernel
theorem dX1_isBreak_25 : decode cX1_isBreak 25 = .ok (.ifCond .eq 13, 3) := by decide +kernel
theorem dX1_isBreak_28 : decode cX1_isBreak 28 = .ok (.aload_n 0, 1) := by decide +kernel
theorem dX1_isBreak_29 : decode cX1_isBreak 29 = .ok (.iload_n 1, 1) := by decide +kernel
theorem dX1_isBreak_30 : decode cX1_isBreak 30 = .ok (.iconst 3, 1) := by decide +kernel
theorem dX1_isBreak_31 : decode cX1_isBreak 31 = .ok (.iadd, 1) := by decide +kernel
theorem dX1_isBreak_32 : decode cX1_isBreak 32 = .ok (.invokevirtual 43, 3) := by decide +kernel
theorem dX1_isBreak_35 : decode cX1_isBreak 35 = .ok (.ifCond .ne 5, 3) := by decide +kernel
theorem dX1_isBreak_38 : decode cX1_isBreak 38 = .ok (.iconst 0, 1) := by decide +kernel
theorem dX1_isBreak_39 : decode cX1_isBreak 39 = .ok (.ireturn, 1) := by decide +kernel
theorem dX1_isBreak_40 : decode cX1_isBreak 40 = .ok (.aload_n 0, 1) := by decide +kernel
theorem dX1_isBreak_41 : decode cX1_isBreak 41 = .ok (.getfield 15, 3) := by decide +kernel
theorem dX1_isBreak_44 : decode cX1_isBreak 44 = .ok (.iload_n 1, 1) := by decide +kernel
theorem dX1_isBreak_45 : decode cX1_isBreak 45 = .ok (.laload, 1) := by decide +kernel
theorem dX1_isBreak_46 : decode cX1_isBreak 46 = .ok (.aload_n 0, 1) := by decide +kernel
theorem dX1_isBreak_47 : decode cX1_isBreak 47 = .ok (.getfield 15, 3) := by decide +kernel
theorem dX1_isBreak_50 : decode cX1_isBreak 50 = .ok (.iload_n 1, 1) := by decide +kernel
theorem dX1_isBreak_51 : decode cX1_isBreak 51 = .ok (.iconst 1, 1) := by decide +kernel
theorem dX1_isBreak_52 : decode cX1_isBreak 52 = .ok (.iadd, 1) := by decide +kernel
theorem dX1_isBreak_53 : decode cX1_isBreak 53 = .ok (.laload, 1) := by decide +kernel
theorem dX1_isBreak_54 : decode cX1_isBreak 54 = .ok (.lmul, 1) := by decide +kernel
theorem dX1_isBreak_55 : decode cX1_isBreak 55 = .ok (.lstore_n 3, 1) := by decide +kernel
theorem dX1_isBreak_56 : decode cX1_isBreak 56 = .ok (.aload_n 0, 1) := by decide +kernel
theorem dX1_isBreak_57 : decode cX1_isBreak 57 = .ok (.getfield 15, 3) := by decide +kernel
theorem dX1_isBreak_60 : decode cX1_isBreak 60 = .ok (.iload_n 1, 1) := by decide +kernel
theorem dX1_isBreak_61 : decode cX1_isBreak 61 = .ok (.iconst 2, 1) := by decide +kernel
theorem dX1_isBreak_62 : decode cX1_isBreak 62 = .ok (.iadd, 1) := by decide +kernel
theorem dX1_isBreak_63 : decode cX1_isBreak 63 = .ok (.laload, 1) := by decide +kernel
theorem dX1_isBreak_64 : decode cX1_isBreak 64 = .ok (.aload_n 0, 1) := by decide +kernel
theorem dX1_isBreak_65 : decode cX1_isBreak 65 = .ok (.getfield 15, 3) := by decide +kernel
theorem dX1_isBreak_68 : decode cX1_isBreak 68 = .ok (.iload_n 1, 1) := by decide +kernel
theorem dX1_isBreak_69 : decode cX1_isBreak 69 = .ok (.iconst 3, 1) := by decide +kernel
theorem dX1_isBreak_70 : decode cX1_isBreak 70 = .ok (.iadd, 1) := by decide +kernel
theorem dX1_isBreak_71 : decode cX1_isBreak 71 = .ok (.laload, 1) := by decide +kernel
theorem dX1_isBreak_72 : decode cX1_isBreak 72 = .ok (.lmul, 1) := by decide +kernel
theorem dX1_isBreak_73 : decode cX1_isBreak 73 = .ok (.lstore 5, 2) := by decide +kernel
theorem dX1_isBreak_75 : decode cX1_isBreak 75 = .ok (.ldc2_w 47, 3) := by decide +kernel
theorem dX1_isBreak_78 : decode cX1_isBreak 78 = .ok (.aload_n 0, 1) := by decide +kernel
theorem dX1_isBreak_79 : decode cX1_isBreak 79 = .ok (.getfield 9, 3) := by decide +kernel
theorem dX1_isBreak_82 : decode cX1_isBreak 82 = .ok (.iload_n 1, 1) := by decide +kernel
theorem dX1_isBreak_83 : decode cX1_isBreak 83 = .ok (.iconst 1, 1) := by decide +kernel
theorem dX1_isBreak_84 : decode cX1_isBreak 84 = .ok (.iadd, 1) := by decide +kernel
theorem dX1_isBreak_85 : decode cX1_isBreak 85 = .ok (.laload, 1) := by decide +kernel
theorem dX1_isBreak_86 : decode cX1_isBreak 86 = .ok (.lmul, 1) := by decide +kernel
theorem dX1_isBreak_87 : decode cX1_isBreak 87 = .ok (.aload_n 0, 1) := by decide +kernel
theorem dX1_isBreak_88 : decode cX1_isBreak 88 = .ok (.getfield 15, 3) := by decide +kernel
theorem dX1_isBreak_91 : decode cX1_isBreak 91 = .ok (.iload_n 1, 1) := by decide +kernel
theorem dX1_isBreak_92 : decode cX1_isBreak 92 = .ok (.laload, 1) := by decide +kernel
theorem dX1_isBreak_93 : decode cX1_isBreak 93 = .ok (.lmul, 1) := by decide +kernel
theorem dX1_isBreak_94 : decode cX1_isBreak 94 = .ok (.aload_n 0, 1) := by decide +kernel
theorem dX1_isBreak_95 : decode cX1_isBreak 95 = .ok (.getfield 9, 3) := by decide +kernel
theorem dX1_isBreak_98 : decode cX1_isBreak 98 = .ok (.iload_n 1, 1) := by decide +kernel
theorem dX1_isBreak_99 : decode cX1_isBreak 99 = .ok (.laload, 1) := by decide +kernel
theorem dX1_isBreak_100 : decode cX1_isBreak 100 = .ok (.aload_n 0, 1) := by decide +kernel
theorem dX1_isBreak_101 : decode cX1_isBreak 101 = .ok (.getfield 15, 3) := by decide +kernel
theorem dX1_isBreak_104 : decode cX1_isBreak 104 = .ok (.iload_n 1, 1) := by decide +kernel
theorem dX1_isBreak_105 : decode cX1_isBreak 105 = .ok (.iconst 1, 1) := by decide +kernel
theorem dX1_isBreak_106 : decode cX1_isBreak 106 = .ok (.iadd, 1) := by decide +kernel
theorem dX1_isBreak_107 : decode cX1_isBreak 107 = .ok (.laload, 1) := by decide +kernel
theorem dX1_isBreak_108 : decode cX1_isBreak 108 = .ok (.lmul, 1) := by decide +kernel
theorem dX1_isBreak_109 : decode cX1_isBreak 109 = .ok (.lsub, 1) := by decide +kernel
theorem dX1_isBreak_110 : decode cX1_isBreak 110 = .ok (.lload 5, 2) := by decide +kernel
theorem dX1_isBreak_112 : decode cX1_isBreak 112 = .ok (.lmul, 1) := by decide +kernel
theorem dX1_isBreak_113 : decode cX1_isBreak 113 = .ok (.lstore 7, 2) := by decide +kernel
theorem dX1_isBreak_115 : decode cX1_isBreak 115 = .ok (.aload_n 0, 1) := by decide +kernel
theorem dX1_isBreak_116 : decode cX1_isBreak 116 = .ok (.getfield 9, 3) := by decide +kernel
theorem dX1_isBreak_119 : decode cX1_isBreak 119 = .ok (.iload_n 1, 1) := by decide +kernel
theorem dX1_isBreak_120 : decode cX1_isBreak 120 = .ok (.iconst 3, 1) := by decide +kernel
theorem dX1_isBreak_121 : decode cX1_isBreak 121 = .ok (.iadd, 1) := by decide +kernel
theorem dX1_isBreak_122 : decode cX1_isBreak 122 = .ok (.laload, 1) := by decide +kernel
theorem dX1_isBreak_123 : decode cX1_isBreak 123 = .ok (.aload_n 0, 1) := by decide +kernel
theorem dX1_isBreak_124 : decode cX1_isBreak 124 = .ok (.getfield 15, 3) := by decide +kernel
theorem dX1_isBreak_127 : decode cX1_isBreak 127 = .ok (.iload_n 1, 1) := by decide +kernel
theorem dX1_isBreak_128 : decode cX1_isBreak 128 = .ok (.iconst 2, 1) := by decide +kernel
theorem dX1_isBreak_129 : decode cX1_isBreak 129 = .ok (.iadd, 1) := by decide +kernel
theorem dX1_isBreak_130 : decode cX1_isBreak 130 = .ok (.laload, 1) := by decide +kernel
theorem dX1_isBreak_131 : decode cX1_isBreak 131 = .ok (.lmul, 1) := by decide +kernel
theorem dX1_isBreak_132 : decode cX1_isBreak 132 = .ok (.ldc2_w 47, 3) := by decide +kernel
theorem dX1_isBreak_135 : decode cX1_isBreak 135 = .ok (.aload_n 0, 1) := by decide +kernel
theorem dX1_isBreak_136 : decode cX1_isBreak 136 = .ok (.getfield 9, 3) := by decide +kernel
theorem dX1_isBreak_139 : decode cX1_isBreak 139 = .ok (.iload_n 1, 1) := by decide +kernel
theorem dX1_isBreak_140 : decode cX1_isBreak 140 = .ok (.iconst 2, 1) := by decide +kernel
theorem dX1_isBreak_141 : decode cX1_isBreak 141 = .ok (.iadd, 1) := by decide +kernel
theorem dX1_isBreak_142 : decode cX1_isBreak 142 = .ok (.laload, 1) := by decide +kernel
theorem dX1_isBreak_143 : decode cX1_isBreak 143 = .ok (.lmul, 1) := by decide +kernel
theorem dX1_isBreak_144 : decode cX1_isBreak 144 = .ok (.aload_n 0, 1) := by decide +kernel
theorem dX1_isBreak_145 : decode cX1_isBreak 145 = .ok (.getfield 15, 3) := by decide +kernel
theorem dX1_isBreak_148 : decode cX1_isBreak 148 = .ok (.iload_n 1, 1) := by decide +kernel
theorem dX1_isBreak_149 : decode cX1_isBreak 149 = .ok (.iconst 3, 1) := by decide +kernel
theorem dX1_isBreak_150 : decode cX1_isBreak 150 = .ok (.iadd, 1) := by decide +kernel
theorem dX1_isBreak_151 : decode cX1_isBreak 151 = .ok (.laload, 1) := by decide +kernel
theorem dX1_isBreak_152 : decode cX1_isBreak 152 = .ok (.lmul, 1) := by decide +kernel
theorem dX1_isBreak_153 : decode cX1_isBreak 153 = .ok (.lsub, 1) := by decide +kernel
theorem dX1_isBreak_154 : decode cX1_isBreak 154 = .ok (.lload_n 3, 1) := by decide +kernel
theorem dX1_isBreak_155 : decode cX1_isBreak 155 = .ok (.lmul, 1) := by decide +kernel
theorem dX1_isBreak_156 : decode cX1_isBreak 156 = .ok (.lstore 9, 2) := by decide +kernel
theorem dX1_isBreak_158 : decode cX1_isBreak 158 = .ok (.ldc2_w 49, 3) := by decide +kernel
theorem dX1_isBreak_161 : decode cX1_isBreak 161 = .ok (.lload 7, 2) := by decide +kernel
theorem dX1_isBreak_163 : decode cX1_isBreak 163 = .ok (.lload 9, 2) := by decide +kernel
theorem dX1_isBreak_165 : decode cX1_isBreak 165 = .ok (.ladd, 1) := by decide +kernel
theorem dX1_isBreak_166 : decode cX1_isBreak 166 = .ok (.invokestatic 51, 3) := by decide +kernel
theorem dX1_isBreak_169 : decode cX1_isBreak 169 = .ok (.lmul, 1) := by decide +kernel
theorem dX1_isBreak_170 : decode cX1_isBreak 170 = .ok (.iload_n 2, 1) := by decide +kernel
theorem dX1_isBreak_171 : decode cX1_isBreak 171 = .ok (.i2l, 1) := by decide +kernel
theorem dX1_isBreak_172 : decode cX1_isBreak 172 = .ok (.lload_n 3, 1) := by decide +kernel
theorem dX1_isBreak_173 : decode cX1_isBreak 173 = .ok (.lmul, 1) := by decide +kernel
theorem dX1_isBreak_174 : decode cX1_isBreak 174 = .ok (.lload 5, 2) := by decide +kernel
theorem dX1_isBreak_176 : decode cX1_isBreak 176 = .ok (.lmul, 1) := by decide +kernel
theorem dX1_isBreak_177 : decode cX1_isBreak 177 = .ok (.lcmp, 1) := by decide +kernel
theorem dX1_isBreak_178 : decode cX1_isBreak 178 = .ok (.ifCond .le 7, 3) := by decide +kernel
theorem dX1_isBreak_181 : decode cX1_isBreak 181 = .ok (.iconst 1, 1) := by decide +kernel
theorem dX1_isBreak_182 : decode cX1_isBreak 182 = .ok (.goto 4, 3) := by decide +kernel
theorem dX1_isBreak_185 : decode cX1_isBreak 185 = .ok (.iconst 0, 1) := by decide +kernel
theorem dX1_isBreak_186 : decode cX1_isBreak 186 = .ok (.ireturn, 1) := by decide +kernel
end
section
theorem dX2_init_0 : decode cX2_init 0 = .ok (.aload_n 0, 1) := by decide +kernel
theorem dX2_init_1 : decode cX2_init 1 = .ok (.invokespecial 5, 3) := by decide +kernel
theorem dX2_init_4 : decode cX2_init 4 = .ok (.aload_n 0, 1) := by decide +kernel
theorem dX2_init_5 : decode cX2_init 5 = .ok (.bipush 12, 2) := by decide +kernel
theorem dX2_init_7 : decode cX2_init 7 = .ok (.newarray .int, 2) := by decide +kernel
theorem dX2_init_9 : decode cX2_init 9 = .ok (.putfield 11, 3) := by decide +kernel
theorem dX2_init_12 : decode cX2_init 12 = .ok (.aload_n 0, 1) := by decide +kernel
theorem dX2_init_13 : decode cX2_init 13 = .ok (.bipush 12, 2) := by decide +kernel
theorem dX2_init_15 : decode cX2_init 15 = .ok (.newarray .int, 2) := by decide +kernel
theorem dX2_init_17 : decode cX2_init 17 = .ok (.putfield 15, 3) := by decide +kernel
theorem dX2_init_20 : decode cX2_init 20 = .ok (.aload_n 0, 1) := by decide +kernel
theorem dX2_init_21 : decode cX2_init 21 = .ok (.bipush 12, 2) := by decide +kernel
theorem dX2_init_23 : decode cX2_init 23 = .ok (.newarray .int, 2) := by decide +kernel
theorem dX2_init_25 : decode cX2_init 25 = .ok (.putfield 18, 3) := by decide +kernel
theorem dX2_init_28 : decode cX2_init 28 = .ok (.aload_n 0, 1) := by decide +kernel
theorem dX2_init_29 : decode cX2_init 29 = .ok (.bipush 12, 2) := by decide +kernel
theorem dX2_init_31 : decode cX2_init 31 = .ok (.newarray .int, 2) := by decide +kernel
theorem dX2_init_33 : decode cX2_init 33 = .ok (.putfield 21, 3) := by decide +kernel
theorem dX2_init_36 : decode cX2_init 36 = .ok (.aload_n 0, 1) := by decide +kernel
theorem dX2_init_37 : decode cX2_init 37 = .ok (.sipush 3430, 3) := by decide +kernel
theorem dX2_init_40 : decode cX2_init 40 = .ok (.newarray .int, 2) := by decide +kernel
theorem dX2_init_42 : decode cX2_init 42 = .ok (.putfield 24, 3) := by decide +kernel
theorem dX2_init_45 : decode cX2_init 45 = .ok (.return_, 1) := by decide +kernel
theorem dX2_place_0 : decode cX2_place 0 = .ok (.aload_n 0, 1) := by decide +kernel
theorem dX2_place_1 : decode cX2_place 1 = .ok (.getfield 11, 3) := by decide +kernel
theorem dX2_place_4 : decode cX2_place 4 = .ok (.iload_n 1, 1) := by decide +kernel
theorem dX2_place_5 : decode cX2_place 5 = .ok (.iconst 3, 1) := by decide +kernel
theorem dX2_place_6 : decode cX2_place 6 = .ok (.iadd, 1) := by decide +kernel
theorem dX2_place_7 : decode cX2_place 7 = .ok (.iload_n 2, 1) := by decide +kernel
theorem dX2_place_8 : decode cX2_place 8 = .ok (.iastore, 1) := by decide +kernel
theorem dX2_place_9 : decode cX2_place 9 = .ok (.aload_n 0, 1) := by decide +kernel
theorem dX2_place_10 : decode cX2_place 10 = .ok (.getfield 15, 3) := by decide +kernel
theorem dX2_place_13 : decode cX2_place 13 = .ok (.iload_n 1, 1) := by decide +kernel
theorem dX2_place_14 : decode cX2_place 14 = .ok (.iconst 3, 1) := by decide +kernel
theorem dX2_place_15 : decode cX2_place 15 = .ok (.iadd, 1) := by decide +kernel
theorem dX2_place_16 : decode cX2_place 16 = .ok (.iload_n 3, 1) := by decide +kernel
theorem dX2_place_17 : decode cX2_place 17 = .ok (.ineg, 1) := by decide +kernel
theorem dX2_place_18 : decode cX2_place 18 = .ok (.iload_n 2, 1) := by decide +kernel
theorem dX2_place_19 : decode cX2_place 19 = .ok (.ineg, 1) := by decide +kernel
theorem dX2_place_20 : decode cX2_place 20 = .ok (.invokestatic 27, 3) := by decide +kernel
theorem dX2_place_23 : decode cX2_place 23 = .ok (.iastore, 1) := by decide +kernel
theorem dX2_place_24 : decode cX2_place 24 = .ok (.aload_n 0, 1) := by decide +kernel
theorem dX2_place_25 : decode cX2_place 25 = .ok (.getfield 18, 3) := by decide +kernel
theorem dX2_place_28 : decode cX2_place 28 = .ok (.iload_n 1, 1) := by decide +kernel
theorem dX2_place_29 : decode cX2_place 29 = .ok (.iconst 3, 1) := by decide +kernel
theorem dX2_place_30 : decode cX2_place 30 = .ok (.iadd, 1) := by decide +kernel
theorem dX2_place_31 : decode cX2_place 31 = .ok (.iload_n 3, 1) := by decide +kernel
theorem dX2_place_32 : decode cX2_place 32 = .ok (.sipush 999, 3) := by decide +kernel
theorem dX2_place_35 : decode cX2_place 35 = .ok (.iload_n 2, 1) := by decide +kernel
theorem dX2_place_36 : decode cX2_place 36 = .ok (.isub, 1) := by decide +kernel
theorem dX2_place_37 : decode cX2_place 37 = .ok (.invokestatic 33, 3) := by decide +kernel
theorem dX2_place_40 : decode cX2_place 40 = .ok (.iastore, 1) := by decide +kernel
theorem dX2_place_41 : decode cX2_place 41 = .ok (.return_, 1) := by decide +kernel
theorem dX2_stay_0 : decode cX2_stay 0 = .ok (.iconst 0, 1) := by decide +kernel
theorem dX2_stay_1 : decode cX2_stay 1 = .ok (.istore_n 1, 1) := by decide +kernel
theorem dX2_stay_2 : decode cX2_stay 2 = .ok (.iload_n 1, 1) := by decide +kernel
theorem dX2_stay_3 : decode cX2_stay 3 = .ok (.aload_n 0, 1) := by decide +kernel
theorem dX2_stay_4 : decode cX2_stay 4 = .ok (.getfield 21, 3) := by decide +kernel
theorem dX2_stay_7 : decode cX2_stay 7 = .ok (.arraylength, 1) := by decide +kernel
theorem dX2_stay_8 : decode cX2_stay 8 = .ok (.if_icmp .ge 16, 3) := by decide +kernel
theorem dX2_stay_11 : decode cX2_stay 11 = .ok (.aload_n 0, 1) := by decide +kernel
theorem dX2_stay_12 : decode cX2_stay 12 = .ok (.getfield 21, 3) := by decide +kernel
theorem dX2_stay_15 : decode cX2_stay 15 = .ok (.iload_n 1, 1) := by decide +kernel
theorem dX2_stay_16 : decode cX2_stay 16 = .ok (.iconst 0, 1) := by decide +kernel
theorem dX2_stay_17 : decode cX2_stay 17 = .ok (.iastore, 1) := by decide +kernel
theorem dX2_stay_18 : decode cX2_stay 18 = .ok (.iinc 1 1, 3) := by decide +kernel
theorem dX2_stay_21 : decode cX2_stay 21 = .ok (.goto (-19), 3) := by decide +kernel
theorem dX2_stay_24 : decode cX2_stay 24 = .ok (.return_, 1) := by decide +kernel
theorem dX2_moveOf_0 : decode cX2_moveOf 0 = .ok (.aload_n 0, 1) := by decide +kernel
theorem dX2_moveOf_1 : decode cX2_moveOf 1 = .ok (.getfield 21, 3) := by decide +kernel
theorem dX2_moveOf_4 : decode cX2_moveOf 4 = .ok (.iload_n 1, 1) := by decide +kernel
theorem dX2_moveOf_5 : decode cX2_moveOf 5 = .ok (.iconst 3, 1) := by decide +kernel
theorem dX2_moveOf_6 : decode cX2_moveOf 6 = .ok (.iadd, 1) := by decide +kernel
theorem dX2_moveOf_7 : decode cX2_moveOf 7 = .ok (.iaload, 1) := by decide +kernel
theorem dX2_moveOf_8 : decode cX2_moveOf 8 = .ok (.ireturn, 1) := by decide +kernel
theorem dX2_seek_0 : decode cX2_seek 0 = .ok (.aload_n 0, 1) := by decide +kernel
theorem dX2_seek_1 : decode cX2_seek 1 = .ok (.iload_n 1, 1) := by decide +kernel
theorem dX2_seek_2 : decode cX2_seek 2 = .ok (.putfield 36, 3) := by decide +kernel
theorem dX2_seek_5 : decode cX2_seek 5 = .ok (.aload_n 0, 1) := by decide +kernel
theorem dX2_seek_6 : decode cX2_seek 6 = .ok (.iload_n 2, 1) := by decide +kernel
theorem dX2_seek_7 : decode cX2_seek 7 = .ok (.putfield 40, 3) := by decide +kernel
theorem dX2_seek_10 : decode cX2_seek 10 = .ok (.aload_n 0, 1) := by decide +kernel
theorem dX2_seek_11 : decode cX2_seek 11 = .ok (.getfield 36, 3) := by decide +kernel
theorem dX2_seek_14 : decode cX2_seek 14 = .ok (.iconst 1, 1) := by decide +kernel
theorem dX2_seek_15 : decode cX2_seek 15 = .ok (.isub, 1) := by decide +kernel
theorem dX2_seek_16 : decode cX2_seek 16 = .ok (.istore_n 3, 1) := by decide +kernel
theorem dX2_seek_17 : decode cX2_seek 17 = .ok (.iload_n 3, 1) := by decide +kernel
theorem dX2_seek_18 : decode cX2_seek 18 = .ok (.ifCond .lt 14, 3) := by decide +kernel
theorem dX2_seek_21 : decode cX2_seek 21 = .ok (.aload_n 0, 1) := by decide +kernel
theorem dX2_seek_22 : decode cX2_seek 22 = .ok (.iload_n 3, 1) := by decide +kernel
theorem dX2_seek_23 : decode cX2_seek 23 = .ok (.invokevirtual 43, 3) := by decide +kernel
theorem dX2_seek_26 : decode cX2_seek 26 = .ok (.iinc 3 (-1), 3) := by decide +kernel
theorem dX2_seek_29 : decode cX2_seek 29 = .ok (.goto (-12), 3) := by decide +kernel
theorem dX2_seek_32 : decode cX2_seek 32 = .ok (.aload_n 0, 1) := by decide +kernel
theorem dX2_seek_33 : decode cX2_seek 33 = .ok (.getfield 24, 3) := by decide +kernel
theorem dX2_seek_36 : decode cX2_seek 36 = .ok (.aload_n 0, 1) := by decide +kernel
theorem dX2_seek_37 : decode cX2_seek 37 = .ok (.iconst 0, 1) := by decide +kernel
theorem dX2_seek_38 : decode cX2_seek 38 = .ok (.iconst 0, 1) := by decide +kernel
theorem dX2_seek_39 : decode cX2_seek 39 = .ok (.iconst 0, 1) := by decide +kernel
theorem dX2_seek_40 : decode cX2_seek 40 = .ok (.iconst 0, 1) := by decide +kernel
theorem dX2_seek_41 : decode cX2_seek 41 = .ok (.invokevirtual 47, 3) := by decide +kernel
theorem dX2_seek_44 : decode cX2_seek 44 = .ok (.iaload, 1) := by decide +kernel
theorem dX2_seek_45 : decode cX2_seek 45 = .ok (.istore_n 3, 1) := by decide +kernel
theorem dX2_seek_46 : decode cX2_seek 46 = .ok (.iload_n 3, 1) := by decide +kernel
theorem dX2_seek_47 : decode cX2_seek 47 = .ok (.sipush 1000, 3) := by decide +kernel
theorem dX2_seek_50 : decode cX2_seek 50 = .ok (.if_icmp .lt 6, 3) := by decide +kernel
theorem dX2_seek_53 : decode cX2_seek 53 = .ok (.bipush (-9), 2) := by decide +kernel
theorem dX2_seek_55 : decode cX2_seek 55 = .ok (.ireturn, 1) := by decide +kernel
theorem dX2_seek_56 : decode cX2_seek 56 = .ok (.iconst 0, 1) := by decide +kernel
theorem dX2_seek_57 : decode cX2_seek 57 = .ok (.istore 4, 2) := by decide +kernel
theorem dX2_seek_59 : decode cX2_seek 59 = .ok (.iload 4, 2) := by decide +kernel
theorem dX2_seek_61 : decode cX2_seek 61 = .ok (.aload_n 0, 1) := by decide +kernel
theorem dX2_seek_62 : decode cX2_seek 62 = .ok (.getfield 36, 3) := by decide +kernel
theorem dX2_seek_65 : decode cX2_seek 65 = .ok (.if_icmp .ge 49, 3) := by decide +kernel
theorem dX2_seek_68 : decode cX2_seek 68 = .ok (.aload_n 0, 1) := by decide +kernel
theorem dX2_seek_69 : decode cX2_seek 69 = .ok (.getfield 21, 3) := by decide +kernel
theorem dX2_seek_72 : decode cX2_seek 72 = .ok (.iload 4, 2) := by decide +kernel
theorem dX2_seek_74 : decode cX2_seek 74 = .ok (.iconst 3, 1) := by decide +kernel
theorem dX2_seek_75 : decode cX2_seek 75 = .ok (.iadd, 1) := by decide +kernel
theorem dX2_seek_76 : decode cX2_seek 76 = .ok (.aload_n 0, 1) := by decide +kernel
theorem dX2_seek_77 : decode cX2_seek 77 = .ok (.iload 4, 2) := by decide +kernel
theorem dX2_seek_79 : decode cX2_seek 79 = .ok (.aload_n 0, 1) := by decide +kernel
theorem dX2_seek_80 : decode cX2_seek 80 = .ok (.getfield 21, 3) := by decide +kernel
theorem dX2_seek_83 : decode cX2_seek 83 = .ok (.iload 4, 2) := by decide +kernel
theorem dX2_seek_85 : decode cX2_seek 85 = .ok (.iaload, 1) := by decide +kernel
theorem dX2_seek_86 : decode cX2_seek 86 = .ok (.aload_n 0, 1) := by decide +kernel
theorem dX2_seek_87 : decode cX2_seek 87 = .ok (.getfield 21, 3) := by decide +kernel
theorem dX2_seek_90 : decode cX2_seek 90 = .ok (.iload 4, 2) := by decide +kernel
theorem dX2_seek_92 : decode cX2_seek 92 = .ok (.iconst 1, 1) := by decide +kernel
theorem dX2_seek_93 : decode cX2_seek 93 = .ok (.iadd, 1) := by decide +kernel
theorem dX2_seek_94 : decode cX2_seek 94 = .ok (.iaload, 1) := by decide +kernel
theorem dX2_seek_95 : decode cX2_seek 95 = .ok (.aload_n 0, 1) := by decide +kernel
theorem dX2_seek_96 : decode cX2_seek 96 = .ok (.getfield 21, 3) := by decide +kernel
theorem dX2_seek_99 : decode cX2_seek 99 = .ok (.iload 4, 2) := by decide +kernel
theorem dX2_seek_101 : decode cX2_seek 101 = .ok (.iconst 2, 1) := by decide +kernel
theorem dX2_seek_102 : decode cX2_seek 102 = .ok (.iadd, 1) := by decide +kernel
theorem dX2_seek_103 : decode cX2_seek 103 = .ok (.iaload, 1) := by decide +kernel
theorem dX2_seek_104 : decode cX2_seek 104 = .ok (.invokevirtual 51, 3) := by decide +kernel
theorem dX2_seek_107 : decode cX2_seek 107 = .ok (.iastore, 1) := by decide +kernel
theorem dX2_seek_108 : decode cX2_seek 108 = .ok (.iinc 4 1, 3) := by decide +kernel
theorem dX2_seek_111 : decode cX2_seek 111 = .ok (.goto (-52), 3) := by decide +kernel
theorem dX2_seek_114 : decode cX2_seek 114 = .ok (.iload_n 3, 1) := by decide +kernel
theorem dX2_seek_115 : decode cX2_seek 115 = .ok (.ireturn, 1) := by decide +kernel
theorem dX2_keepFewest_0 : decode cX2_keepFewest 0 = .ok (.aload_n 0, 1) := by decide +kernel
theorem dX2_keepFewest_1 : decode cX2_keepFewest 1 = .ok (.getfield 15, 3) := by decide +kernel
theorem dX2_keepFewest_4 : decode cX2_keepFewest 4 = .ok (.iload_n 1, 1) := by decide +kernel
theorem dX2_keepFewest_5 : decode cX2_keepFewest 5 = .ok (.iaload, 1) := by decide +kernel
theorem dX2_keepFewest_6 : decode cX2_keepFewest 6 = .ok (.istore_n 2, 1) := by decide +kernel
theorem dX2_keepFewest_7 : decode cX2_keepFewest 7 = .ok (.iload_n 2, 1) := by decide +kernel
theorem dX2_keepFewest_8 : decode cX2_keepFewest 8 = .ok (.aload_n 0, 1) := by decide +kernel
theorem dX2_keepFewest_9 : decode cX2_keepFewest 9 = .ok (.getfield 18, 3) := by decide +kernel
theorem dX2_keepFewest_12 : decode cX2_keepFewest 12 = .ok (.iload_n 1, 1) := by decide +kernel
theorem dX2_keepFewest_13 : decode cX2_keepFewest 13 = .ok (.iaload, 1) := by decide +kernel
theorem dX2_keepFewest_14 : decode cX2_keepFewest 14 = .ok (.if_icmp .gt 88, 3) := by decide +kernel
theorem dX2_keepFewest_17 : decode cX2_keepFewest 17 = .ok (.aload_n 0, 1) := by decide +kernel
theorem dX2_keepFewest_18 : decode cX2_keepFewest 18 = .ok (.getfield 15, 3) := by decide +kernel
theorem dX2_keepFewest_21 : decode cX2_keepFewest 21 = .ok (.iload_n 1, 1) := by decide +kernel
theorem dX2_keepFewest_22 : decode cX2_keepFewest 22 = .ok (.iconst 1, 1) := by decide +kernel
theorem dX2_keepFewest_23 : decode cX2_keepFewest 23 = .ok (.iadd, 1) := by decide +kernel
theorem dX2_keepFewest_24 : decode cX2_keepFewest 24 = .ok (.iaload, 1) := by decide +kernel
theorem dX2_keepFewest_25 : decode cX2_keepFewest 25 = .ok (.istore_n 3, 1) := by decide +kernel
theorem dX2_keepFewest_26 : decode cX2_keepFewest 26 = .ok (.iload_n 3, 1) := by decide +kernel
theorem dX2_keepFewest_27 : decode cX2_keepFewest 27 = .ok (.aload_n 0, 1) := by decide +kernel
theorem dX2_keepFewest_28 : decode cX2_keepFewest 28 = .ok (.getfield 18, 3) := by decide +kernel
theorem dX2_keepFewest_31 : decode cX2_keepFewest 31 = .ok (.iload_n 1, 1) := by decide +kernel
theorem dX2_keepFewest_32 : decode cX2_keepFewest 32 = .ok (.iconst 1, 1) := by decide +kernel
theorem dX2_keepFewest_33 : decode cX2_keepFewest 33 = .ok (.iadd, 1) := by decide +kernel
theorem dX2_keepFewest_34 : decode cX2_keepFewest 34 = .ok (.iaload, 1) := by decide +kernel
theorem dX2_keepFewest_35 : decode cX2_keepFewest 35 = .ok (.if_icmp .gt 61, 3) := by decide +kernel
theorem dX2_keepFewest_38 : decode cX2_keepFewest 38 = .ok (.aload_n 0, 1) := by decide +kernel
theorem dX2_keepFewest_39 : decode cX2_keepFewest 39 = .ok (.getfield 15, 3) := by decide +kernel
theorem dX2_keepFewest_42 : decode cX2_keepFewest 42 = .ok (.iload_n 1, 1) := by decide +kernel
theorem dX2_keepFewest_43 : decode cX2_keepFewest 43 = .ok (.iconst 2, 1) := by decide +kernel
theorem dX2_keepFewest_44 : decode cX2_keepFewest 44 = .ok (.iadd, 1) := by decide +kernel
theorem dX2_keepFewest_45 : decode cX2_keepFewest 45 = .ok (.iaload, 1) := by decide +kernel
theorem dX2_keepFewest_46 : decode cX2_keepFewest 46 = .ok (.istore 4, 2) := by decide +kernel
theorem dX2_keepFewest_48 : decode cX2_keepFewest 48 = .ok (.iload 4, 2) := by decide +kernel
theorem dX2_keepFewest_50 : decode cX2_keepFewest 50 = .ok (.aload_n 0, 1) := by decide +kernel
theorem dX2_keepFewest_51 : decode cX2_keepFewest 51 = .ok (.getfield 18, 3) := by decide +kernel
theorem dX2_keepFewest_54 : decode cX2_keepFewest 54 = .ok (.iload_n 1, 1) := by decide +kernel
theorem dX2_keepFewest_55 : decode cX2_keepFewest 55 = .ok (.iconst 2, 1) := by decide +kernel
theorem dX2_keepFewest_56 : decode cX2_keepFewest 56 = .ok (.iadd, 1) := by decide +kernel
theorem dX2_keepFewest_57 : decode cX2_keepFewest 57 = .ok (.iaload, 1) := by decide +kernel
theorem dX2_keepFewest_58 : decode cX2_keepFewest 58 = .ok (.if_icmp .gt 32, 3) := by decide +kernel
theorem dX2_keepFewest_61 : decode cX2_keepFewest 61 = .ok (.aload_n 0, 1) := by decide +kernel
theorem dX2_keepFewest_62 : decode cX2_keepFewest 62 = .ok (.getfield 24, 3) := by decide +kernel
theorem dX2_keepFewest_65 : decode cX2_keepFewest 65 = .ok (.aload_n 0, 1) := by decide +kernel
theorem dX2_keepFewest_66 : decode cX2_keepFewest 66 = .ok (.iload_n 1, 1) := by decide +kernel
theorem dX2_keepFewest_67 : decode cX2_keepFewest 67 = .ok (.iload_n 2, 1) := by decide +kernel
theorem dX2_keepFewest_68 : decode cX2_keepFewest 68 = .ok (.iload_n 3, 1) := by decide +kernel
theorem dX2_keepFewest_69 : decode cX2_keepFewest 69 = .ok (.iload 4, 2) := by decide +kernel
theorem dX2_keepFewest_71 : decode cX2_keepFewest 71 = .ok (.invokevirtual 47, 3) := by decide +kernel
theorem dX2_keepFewest_74 : decode cX2_keepFewest 74 = .ok (.aload_n 0, 1) := by decide +kernel
theorem dX2_keepFewest_75 : decode cX2_keepFewest 75 = .ok (.iload_n 1, 1) := by decide +kernel
theorem dX2_keepFewest_76 : decode cX2_keepFewest 76 = .ok (.iload_n 2, 1) := by decide +kernel
theorem dX2_keepFewest_77 : decode cX2_keepFewest 77 = .ok (.iload_n 3, 1) := by decide +kernel
theorem dX2_keepFewest_78 : decode cX2_keepFewest 78 = .ok (.iload 4, 2) := by decide +kernel
theorem dX2_keepFewest_80 : decode cX2_keepFewest 80 = .ok (.invokevirtual 54, 3) := by decide +kernel
theorem dX2_keepFewest_83 : decode cX2_keepFewest 83 = .ok (.iastore, 1) := by decide +kernel
theorem dX2_keepFewest_84 : decode cX2_keepFewest 84 = .ok (.iinc 4 1, 3) := by decide +kernel
theorem dX2_keepFewest_87 : decode cX2_keepFewest 87 = .ok (.goto (-39), 3) := by decide +kernel
theorem dX2_keepFewest_90 : decode cX2_keepFewest 90 = .ok (.iinc 3 1, 3) := by decide +kernel
theorem dX2_keepFewest_93 : decode cX2_keepFewest 93 = .ok (.goto (-67), 3) := by decide +kernel
theorem dX2_keepFewest_96 : decode cX2_keepFewest 96 = .ok (.iinc 2 1, 3) := by decide +kernel
theorem dX2_keepFewest_99 : decode cX2_keepFewest 99 = .ok (.goto (-92), 3) := by decide +kernel
theorem dX2_keepFewest_102 : decode cX2_keepFewest 102 = .ok (.return_, 1) := by decide +kernel
theorem dX2_fewestFrom_0 : decode cX2_fewestFrom 0 = .ok (.aload_n 0, 1) := by decide +kernel
theorem dX2_fewestFrom_1 : decode cX2_fewestFrom 1 = .ok (.iload_n 1, 1) := by decide +kernel
theorem dX2_fewestFrom_2 : decode cX2_fewestFrom 2 = .ok (.iconst 1, 1) := by decide +kernel
theorem dX2_fewestFrom_3 : decode cX2_fewestFrom 3 = .ok (.iadd, 1) := by decide +kernel
theorem dX2_fewestFrom_4 : decode cX2_fewestFrom 4 = .ok (.iload_n 3, 1) := by decide +kernel
theorem dX2_fewestFrom_5 : decode cX2_fewestFrom 5 = .ok (.iload 4, 2) := by decide +kernel
theorem dX2_fewestFrom_7 : decode cX2_fewestFrom 7 = .ok (.iconst 0, 1) := by decide +kernel
theorem dX2_fewestFrom_8 : decode cX2_fewestFrom 8 = .ok (.invokevirtual 47, 3) := by decide +kernel
theorem dX2_fewestFrom_11 : decode cX2_fewestFrom 11 = .ok (.istore 5, 2) := by decide +kernel
theorem dX2_fewestFrom_13 : decode cX2_fewestFrom 13 = .ok (.aload_n 0, 1) := by decide +kernel
theorem dX2_fewestFrom_14 : decode cX2_fewestFrom 14 = .ok (.iload_n 1, 1) := by decide +kernel
theorem dX2_fewestFrom_15 : decode cX2_fewestFrom 15 = .ok (.iload_n 2, 1) := by decide +kernel
theorem dX2_fewestFrom_16 : decode cX2_fewestFrom 16 = .ok (.iload_n 3, 1) := by decide +kernel
theorem dX2_fewestFrom_17 : decode cX2_fewestFrom 17 = .ok (.iload 4, 2) := by decide +kernel
theorem dX2_fewestFrom_19 : decode cX2_fewestFrom 19 = .ok (.invokevirtual 57, 3) := by decide +kernel
theorem dX2_fewestFrom_22 : decode cX2_fewestFrom 22 = .ok (.istore 6, 2) := by decide +kernel
theorem dX2_fewestFrom_24 : decode cX2_fewestFrom 24 = .ok (.aload_n 0, 1) := by decide +kernel
theorem dX2_fewestFrom_25 : decode cX2_fewestFrom 25 = .ok (.iload_n 1, 1) := by decide +kernel
theorem dX2_fewestFrom_26 : decode cX2_fewestFrom 26 = .ok (.iload 6, 2) := by decide +kernel
theorem dX2_fewestFrom_28 : decode cX2_fewestFrom 28 = .ok (.invokevirtual 60, 3) := by decide +kernel
theorem dX2_fewestFrom_31 : decode cX2_fewestFrom 31 = .ok (.istore 7, 2) := by decide +kernel
theorem dX2_fewestFrom_33 : decode cX2_fewestFrom 33 = .ok (.sipush 1000, 3) := by decide +kernel
theorem dX2_fewestFrom_36 : decode cX2_fewestFrom 36 = .ok (.istore 8, 2) := by decide +kernel
theorem dX2_fewestFrom_38 : decode cX2_fewestFrom 38 = .ok (.aload_n 0, 1) := by decide +kernel
theorem dX2_fewestFrom_39 : decode cX2_fewestFrom 39 = .ok (.iload_n 1, 1) := by decide +kernel
theorem dX2_fewestFrom_40 : decode cX2_fewestFrom 40 = .ok (.iload 6, 2) := by decide +kernel
theorem dX2_fewestFrom_42 : decode cX2_fewestFrom 42 = .ok (.invokevirtual 63, 3) := by decide +kernel
theorem dX2_fewestFrom_45 : decode cX2_fewestFrom 45 = .ok (.istore 9, 2) := by decide +kernel
theorem dX2_fewestFrom_47 : decode cX2_fewestFrom 47 = .ok (.iload 9, 2) := by decide +kernel
theorem dX2_fewestFrom_49 : decode cX2_fewestFrom 49 = .ok (.iload 7, 2) := by decide +kernel
theorem dX2_fewestFrom_51 : decode cX2_fewestFrom 51 = .ok (.if_icmp .gt 32, 3) := by decide +kernel
theorem dX2_fewestFrom_54 : decode cX2_fewestFrom 54 = .ok (.iload 8, 2) := by decide +kernel
theorem dX2_fewestFrom_56 : decode cX2_fewestFrom 56 = .ok (.iload 9, 2) := by decide +kernel
theorem dX2_fewestFrom_58 : decode cX2_fewestFrom 58 = .ok (.invokestatic 66, 3) := by decide +kernel
theorem dX2_fewestFrom_61 : decode cX2_fewestFrom 61 = .ok (.aload_n 0, 1) := by decide +kernel
theorem dX2_fewestFrom_62 : decode cX2_fewestFrom 62 = .ok (.getfield 24, 3) := by decide +kernel
theorem dX2_fewestFrom_65 : decode cX2_fewestFrom 65 = .ok (.iload 5, 2) := by decide +kernel
theorem dX2_fewestFrom_67 : decode cX2_fewestFrom 67 = .ok (.iload 9, 2) := by decide +kernel
theorem dX2_fewestFrom_69 : decode cX2_fewestFrom 69 = .ok (.iadd, 1) := by decide +kernel
theorem dX2_fewestFrom_70 : decode cX2_fewestFrom 70 = .ok (.iaload, 1) := by decide +kernel
theorem dX2_fewestFrom_71 : decode cX2_fewestFrom 71 = .ok (.iadd, 1) := by decide +kernel
theorem dX2_fewestFrom_72 : decode cX2_fewestFrom 72 = .ok (.invokestatic 33, 3) := by decide +kernel
theorem dX2_fewestFrom_75 : decode cX2_fewestFrom 75 = .ok (.istore 8, 2) := by decide +kernel
theorem dX2_fewestFrom_77 : decode cX2_fewestFrom 77 = .ok (.iinc 9 1, 3) := by decide +kernel
theorem dX2_fewestFrom_80 : decode cX2_fewestFrom 80 = .ok (.goto (-33), 3) := by decide +kernel
theorem dX2_fewestFrom_83 : decode cX2_fewestFrom 83 = .ok (.iload 8, 2) := by decide +kernel
theorem dX2_fewestFrom_85 : decode cX2_fewestFrom 85 = .ok (.ireturn, 1) := by decide +kernel
theorem dX2_firstLeading_0 : decode cX2_firstLeading 0 = .ok (.aload_n 0, 1) := by decide +kernel
theorem dX2_firstLeading_1 : decode cX2_firstLeading 1 = .ok (.getfield 24, 3) := by decide +kernel
theorem dX2_firstLeading_4 : decode cX2_firstLeading 4 = .ok (.aload_n 0, 1) := by decide +kernel
theorem dX2_firstLeading_5 : decode cX2_firstLeading 5 = .ok (.iload_n 1, 1) := by decide +kernel
theorem dX2_firstLeading_6 : decode cX2_firstLeading 6 = .ok (.iload_n 2, 1) := by decide +kernel
theorem dX2_firstLeading_7 : decode cX2_firstLeading 7 = .ok (.iload_n 3, 1) := by decide +kernel
theorem dX2_firstLeading_8 : decode cX2_firstLeading 8 = .ok (.iload 4, 2) := by decide +kernel
theorem dX2_firstLeading_10 : decode cX2_firstLeading 10 = .ok (.invokevirtual 47, 3) := by decide +kernel
theorem dX2_firstLeading_13 : decode cX2_firstLeading 13 = .ok (.iaload, 1) := by decide +kernel
theorem dX2_firstLeading_14 : decode cX2_firstLeading 14 = .ok (.istore 5, 2) := by decide +kernel
theorem dX2_firstLeading_16 : decode cX2_firstLeading 16 = .ok (.aload_n 0, 1) := by decide +kernel
theorem dX2_firstLeading_17 : decode cX2_firstLeading 17 = .ok (.iload_n 1, 1) := by decide +kernel
theorem dX2_firstLeading_18 : decode cX2_firstLeading 18 = .ok (.iconst 1, 1) := by decide +kernel
theorem dX2_firstLeading_19 : decode cX2_firstLeading 19 = .ok (.iadd, 1) := by decide +kernel
theorem dX2_firstLeading_20 : decode cX2_firstLeading 20 = .ok (.iload_n 3, 1) := by decide +kernel
theorem dX2_firstLeading_21 : decode cX2_firstLeading 21 = .ok (.iload 4, 2) := by decide +kernel
theorem dX2_firstLeading_23 : decode cX2_firstLeading 23 = .ok (.iconst 0, 1) := by decide +kernel
theorem dX2_firstLeading_24 : decode cX2_firstLeading 24 = .ok (.invokevirtual 47, 3) := by decide +kernel
theorem dX2_firstLeading_27 : decode cX2_firstLeading 27 = .ok (.istore 6, 2) := by decide +kernel
theorem dX2_firstLeading_29 : decode cX2_firstLeading 29 = .ok (.aload_n 0, 1) := by decide +kernel
theorem dX2_firstLeading_30 : decode cX2_firstLeading 30 = .ok (.iload_n 1, 1) := by decide +kernel
theorem dX2_firstLeading_31 : decode cX2_firstLeading 31 = .ok (.iload_n 2, 1) := by decide +kernel
theorem dX2_firstLeading_32 : decode cX2_firstLeading 32 = .ok (.iload_n 3, 1) := by decide +kernel
theorem dX2_firstLeading_33 : decode cX2_firstLeading 33 = .ok (.iload 4, 2) := by decide +kernel
theorem dX2_firstLeading_35 : decode cX2_firstLeading 35 = .ok (.invokevirtual 57, 3) := by decide +kernel
theorem dX2_firstLeading_38 : decode cX2_firstLeading 38 = .ok (.istore 7, 2) := by decide +kernel
theorem dX2_firstLeading_40 : decode cX2_firstLeading 40 = .ok (.aload_n 0, 1) := by decide +kernel
theorem dX2_firstLeading_41 : decode cX2_firstLeading 41 = .ok (.iload_n 1, 1) := by decide +kernel
theorem dX2_firstLeading_42 : decode cX2_firstLeading 42 = .ok (.iload 7, 2) := by decide +kernel
theorem dX2_firstLeading_44 : decode cX2_firstLeading 44 = .ok (.invokevirtual 60, 3) := by decide +kernel
theorem dX2_firstLeading_47 : decode cX2_firstLeading 47 = .ok (.istore 8, 2) := by decide +kernel
theorem dX2_firstLeading_49 : decode cX2_firstLeading 49 = .ok (.aload_n 0, 1) := by decide +kernel
theorem dX2_firstLeading_50 : decode cX2_firstLeading 50 = .ok (.iload_n 1, 1) := by decide +kernel
theorem dX2_firstLeading_51 : decode cX2_firstLeading 51 = .ok (.iload 7, 2) := by decide +kernel
theorem dX2_firstLeading_53 : decode cX2_firstLeading 53 = .ok (.invokevirtual 63, 3) := by decide +kernel
theorem dX2_firstLeading_56 : decode cX2_firstLeading 56 = .ok (.istore 9, 2) := by decide +kernel
theorem dX2_firstLeading_58 : decode cX2_firstLeading 58 = .ok (.iload 9, 2) := by decide +kernel
theorem dX2_firstLeading_60 : decode cX2_firstLeading 60 = .ok (.iload 8, 2) := by decide +kernel
theorem dX2_firstLeading_62 : decode cX2_firstLeading 62 = .ok (.if_icmp .ge 30, 3) := by decide +kernel
theorem dX2_firstLeading_65 : decode cX2_firstLeading 65 = .ok (.iload 9, 2) := by decide +kernel
theorem dX2_firstLeading_67 : decode cX2_firstLeading 67 = .ok (.invokestatic 66, 3) := by decide +kernel
theorem dX2_firstLeading_70 : decode cX2_firstLeading 70 = .ok (.aload_n 0, 1) := by decide +kernel
theorem dX2_firstLeading_71 : decode cX2_firstLeading 71 = .ok (.getfield 24, 3) := by decide +kernel
theorem dX2_firstLeading_74 : decode cX2_firstLeading 74 = .ok (.iload 6, 2) := by decide +kernel
theorem dX2_firstLeading_76 : decode cX2_firstLeading 76 = .ok (.iload 9, 2) := by decide +kernel
theorem dX2_firstLeading_78 : decode cX2_firstLeading 78 = .ok (.iadd, 1) := by decide +kernel
theorem dX2_firstLeading_79 : decode cX2_firstLeading 79 = .ok (.iaload, 1) := by decide +kernel
theorem dX2_firstLeading_80 : decode cX2_firstLeading 80 = .ok (.iadd, 1) := by decide +kernel
theorem dX2_firstLeading_81 : decode cX2_firstLeading 81 = .ok (.iload 5, 2) := by decide +kernel
theorem dX2_firstLeading_83 : decode cX2_firstLeading 83 = .ok (.if_icmp .eq 9, 3) := by decide +kernel
theorem dX2_firstLeading_86 : decode cX2_firstLeading 86 = .ok (.iinc 9 1, 3) := by decide +kernel
theorem dX2_firstLeading_89 : decode cX2_firstLeading 89 = .ok (.goto (-31), 3) := by decide +kernel
theorem dX2_firstLeading_92 : decode cX2_firstLeading 92 = .ok (.iload 9, 2) := by decide +kernel
theorem dX2_firstLeading_94 : decode cX2_firstLeading 94 = .ok (.ireturn, 1) := by decide +kernel
theorem dX2_jumpUnmoved_0 : decode cX2_jumpUnmoved 0 = .ok (.iload_n 1, 1) := by decide +kernel
theorem dX2_jumpUnmoved_1 : decode cX2_jumpUnmoved 1 = .ok (.iconst 3, 1) := by decide +kernel
theorem dX2_jumpUnmoved_2 : decode cX2_jumpUnmoved 2 = .ok (.if_icmp .ge 5, 3) := by decide +kernel
theorem dX2_jumpUnmoved_5 : decode cX2_jumpUnmoved 5 = .ok (.iconst 0, 1) := by decide +kernel
theorem dX2_jumpUnmoved_6 : decode cX2_jumpUnmoved 6 = .ok (.ireturn, 1) := by decide +kernel
theorem dX2_jumpUnmoved_7 : decode cX2_jumpUnmoved 7 = .ok (.aload_n 0, 1) := by decide +kernel
theorem dX2_jumpUnmoved_8 : decode cX2_jumpUnmoved 8 = .ok (.getfield 11, 3) := by decide +kernel
theorem dX2_jumpUnmoved_11 : decode cX2_jumpUnmoved 11 = .ok (.iload_n 1, 1) := by decide +kernel
theorem dX2_jumpUnmoved_12 : decode cX2_jumpUnmoved 12 = .ok (.iconst 3, 1) := by decide +kernel
theorem dX2_jumpUnmoved_13 : decode cX2_jumpUnmoved 13 = .ok (.iadd, 1) := by decide +kernel
theorem dX2_jumpUnmoved_14 : decode cX2_jumpUnmoved 14 = .ok (.iaload, 1) := by decide +kernel
theorem dX2_jumpUnmoved_15 : decode cX2_jumpUnmoved 15 = .ok (.iconst 3, 1) := by decide +kernel
theorem dX2_jumpUnmoved_16 : decode cX2_jumpUnmoved 16 = .ok (.aload_n 0, 1) := by decide +kernel
theorem dX2_jumpUnmoved_17 : decode cX2_jumpUnmoved 17 = .ok (.getfield 11, 3) := by decide +kernel
theorem dX2_jumpUnmoved_20 : decode cX2_jumpUnmoved 20 = .ok (.iload_n 1, 1) := by decide +kernel
theorem dX2_jumpUnmoved_21 : decode cX2_jumpUnmoved 21 = .ok (.iconst 2, 1) := by decide +kernel
theorem dX2_jumpUnmoved_22 : decode cX2_jumpUnmoved 22 = .ok (.iadd, 1) := by decide +kernel
theorem dX2_jumpUnmoved_23 : decode cX2_jumpUnmoved 23 = .ok (.iaload, 1) := by decide +kernel
theorem dX2_jumpUnmoved_24 : decode cX2_jumpUnmoved 24 = .ok (.iload 4, 2) := by decide +kernel
theorem dX2_jumpUnmoved_26 : decode cX2_jumpUnmoved 26 = .ok (.iadd, 1) := by decide +kernel
theorem dX2_jumpUnmoved_27 : decode cX2_jumpUnmoved 27 = .ok (.imul, 1) := by decide +kernel
theorem dX2_jumpUnmoved_28 : decode cX2_jumpUnmoved 28 = .ok (.isub, 1) := by decide +kernel
theorem dX2_jumpUnmoved_29 : decode cX2_jumpUnmoved 29 = .ok (.iconst 3, 1) := by decide +kernel
theorem dX2_jumpUnmoved_30 : decode cX2_jumpUnmoved 30 = .ok (.aload_n 0, 1) := by decide +kernel
theorem dX2_jumpUnmoved_31 : decode cX2_jumpUnmoved 31 = .ok (.getfield 11, 3) := by decide +kernel
theorem dX2_jumpUnmoved_34 : decode cX2_jumpUnmoved 34 = .ok (.iload_n 1, 1) := by decide +kernel
theorem dX2_jumpUnmoved_35 : decode cX2_jumpUnmoved 35 = .ok (.iconst 1, 1) := by decide +kernel
theorem dX2_jumpUnmoved_36 : decode cX2_jumpUnmoved 36 = .ok (.iadd, 1) := by decide +kernel
theorem dX2_jumpUnmoved_37 : decode cX2_jumpUnmoved 37 = .ok (.iaload, 1) := by decide +kernel
theorem dX2_jumpUnmoved_38 : decode cX2_jumpUnmoved 38 = .ok (.iload_n 3, 1) := by decide +kernel
theorem dX2_jumpUnmoved_39 : decode cX2_jumpUnmoved 39 = .ok (.iadd, 1) := by decide +kernel
theorem dX2_jumpUnmoved_40 : decode cX2_jumpUnmoved 40 = .ok (.imul, 1) := by decide +kernel
theorem dX2_jumpUnmoved_41 : decode cX2_jumpUnmoved 41 = .ok (.iadd, 1) := by decide +kernel
theorem dX2_jumpUnmoved_42 : decode cX2_jumpUnmoved 42 = .ok (.aload_n 0, 1) := by decide +kernel
theorem dX2_jumpUnmoved_43 : decode cX2_jumpUnmoved 43 = .ok (.getfield 11, 3) := by decide +kernel
theorem dX2_jumpUnmoved_46 : decode cX2_jumpUnmoved 46 = .ok (.iload_n 1, 1) := by decide +kernel
theorem dX2_jumpUnmoved_47 : decode cX2_jumpUnmoved 47 = .ok (.iaload, 1) := by decide +kernel
theorem dX2_jumpUnmoved_48 : decode cX2_jumpUnmoved 48 = .ok (.iload_n 2, 1) := by decide +kernel
theorem dX2_jumpUnmoved_49 : decode cX2_jumpUnmoved 49 = .ok (.iadd, 1) := by decide +kernel
theorem dX2_jumpUnmoved_50 : decode cX2_jumpUnmoved 50 = .ok (.isub, 1) := by decide +kernel
theorem dX2_jumpUnmoved_51 : decode cX2_jumpUnmoved 51 = .ok (.ireturn, 1) := by decide +kernel
theorem dX2_firstFit_0 : decode cX2_firstFit 0 = .ok (.aload_n 0, 1) := by decide +kernel
theorem dX2_firstFit_1 : decode cX2_firstFit 1 = .ok (.getfield 15, 3) := by decide +kernel
theorem dX2_firstFit_4 : decode cX2_firstFit 4 = .ok (.iload_n 1, 1) := by decide +kernel
theorem dX2_firstFit_5 : decode cX2_firstFit 5 = .ok (.iconst 3, 1) := by decide +kernel
theorem dX2_firstFit_6 : decode cX2_firstFit 6 = .ok (.iadd, 1) := by decide +kernel
theorem dX2_firstFit_7 : decode cX2_firstFit 7 = .ok (.iaload, 1) := by decide +kernel
theorem dX2_firstFit_8 : decode cX2_firstFit 8 = .ok (.istore_n 3, 1) := by decide +kernel
theorem dX2_firstFit_9 : decode cX2_firstFit 9 = .ok (.iload_n 1, 1) := by decide +kernel
theorem dX2_firstFit_10 : decode cX2_firstFit 10 = .ok (.iconst 3, 1) := by decide +kernel
theorem dX2_firstFit_11 : decode cX2_firstFit 11 = .ok (.if_icmp .ge 7, 3) := by decide +kernel
theorem dX2_firstFit_14 : decode cX2_firstFit 14 = .ok (.iload_n 3, 1) := by decide +kernel
theorem dX2_firstFit_15 : decode cX2_firstFit 15 = .ok (.goto 14, 3) := by decide +kernel
theorem dX2_firstFit_18 : decode cX2_firstFit 18 = .ok (.iload_n 3, 1) := by decide +kernel
theorem dX2_firstFit_19 : decode cX2_firstFit 19 = .ok (.aload_n 0, 1) := by decide +kernel
theorem dX2_firstFit_20 : decode cX2_firstFit 20 = .ok (.getfield 40, 3) := by decide +kernel
theorem dX2_firstFit_23 : decode cX2_firstFit 23 = .ok (.ineg, 1) := by decide +kernel
theorem dX2_firstFit_24 : decode cX2_firstFit 24 = .ok (.iload_n 2, 1) := by decide +kernel
theorem dX2_firstFit_25 : decode cX2_firstFit 25 = .ok (.isub, 1) := by decide +kernel
theorem dX2_firstFit_26 : decode cX2_firstFit 26 = .ok (.invokestatic 27, 3) := by decide +kernel
theorem dX2_firstFit_29 : decode cX2_firstFit 29 = .ok (.ireturn, 1) := by decide +kernel
theorem dX2_lastFit_0 : decode cX2_lastFit 0 = .ok (.aload_n 0, 1) := by decide +kernel
theorem dX2_lastFit_1 : decode cX2_lastFit 1 = .ok (.getfield 18, 3) := by decide +kernel
theorem dX2_lastFit_4 : decode cX2_lastFit 4 = .ok (.iload_n 1, 1) := by decide +kernel
theorem dX2_lastFit_5 : decode cX2_lastFit 5 = .ok (.iconst 3, 1) := by decide +kernel
theorem dX2_lastFit_6 : decode cX2_lastFit 6 = .ok (.iadd, 1) := by decide +kernel
theorem dX2_lastFit_7 : decode cX2_lastFit 7 = .ok (.iaload, 1) := by decide +kernel
theorem dX2_lastFit_8 : decode cX2_lastFit 8 = .ok (.istore_n 3, 1) := by decide +kernel
theorem dX2_lastFit_9 : decode cX2_lastFit 9 = .ok (.iload_n 1, 1) := by decide +kernel
theorem dX2_lastFit_10 : decode cX2_lastFit 10 = .ok (.iconst 3, 1) := by decide +kernel
theorem dX2_lastFit_11 : decode cX2_lastFit 11 = .ok (.if_icmp .ge 7, 3) := by decide +kernel
theorem dX2_lastFit_14 : decode cX2_lastFit 14 = .ok (.iload_n 3, 1) := by decide +kernel
theorem dX2_lastFit_15 : decode cX2_lastFit 15 = .ok (.goto 13, 3) := by decide +kernel
theorem dX2_lastFit_18 : decode cX2_lastFit 18 = .ok (.iload_n 3, 1) := by decide +kernel
theorem dX2_lastFit_19 : decode cX2_lastFit 19 = .ok (.aload_n 0, 1) := by decide +kernel
theorem dX2_lastFit_20 : decode cX2_lastFit 20 = .ok (.getfield 40, 3) := by decide +kernel
theorem dX2_lastFit_23 : decode cX2_lastFit 23 = .ok (.iload_n 2, 1) := by decide +kernel
theorem dX2_lastFit_24 : decode cX2_lastFit 24 = .ok (.isub, 1) := by decide +kernel
theorem dX2_lastFit_25 : decode cX2_lastFit 25 = .ok (.invokestatic 33, 3) := by decide +kernel
theorem dX2_lastFit_28 : decode cX2_lastFit 28 = .ok (.ireturn, 1) := by decide +kernel
theorem dX2_slot_0 : decode cX2_slot 0 = .ok (.iload_n 2, 1) := by decide +kernel
theorem dX2_slot_1 : decode cX2_slot 1 = .ok (.iconst 3, 1) := by decide +kernel
theorem dX2_slot_2 : decode cX2_slot 2 = .ok (.iadd, 1) := by decide +kernel
theorem dX2_slot_3 : decode cX2_slot 3 = .ok (.bipush 7, 2) := by decide +kernel
theorem dX2_slot_5 : decode cX2_slot 5 = .ok (.imul, 1) := by decide +kernel
theorem dX2_slot_6 : decode cX2_slot 6 = .ok (.iload_n 3, 1) := by decide +kernel
theorem dX2_slot_7 : decode cX2_slot 7 = .ok (.iadd, 1) := by decide +kernel
theorem dX2_slot_8 : decode cX2_slot 8 = .ok (.iconst 3, 1) := by decide +kernel
theorem dX2_slot_9 : decode cX2_slot 9 = .ok (.iadd, 1) := by decide +kernel
theorem dX2_slot_10 : decode cX2_slot 10 = .ok (.bipush 7, 2) := by decide +kernel
theorem dX2_slot_12 : decode cX2_slot 12 = .ok (.imul, 1) := by decide +kernel
theorem dX2_slot_13 : decode cX2_slot 13 = .ok (.iload 4, 2) := by decide +kernel
theorem dX2_slot_15 : decode cX2_slot 15 = .ok (.iadd, 1) := by decide +kernel
theorem dX2_slot_16 : decode cX2_slot 16 = .ok (.iconst 3, 1) := by decide +kernel
theorem dX2_slot_17 : decode cX2_slot 17 = .ok (.iadd, 1) := by decide +kernel
theorem dX2_slot_18 : decode cX2_slot 18 = .ok (.istore 5, 2) := by decide +kernel
theorem dX2_slot_20 : decode cX2_slot 20 = .ok (.aload_n 0, 1) := by decide +kernel
theorem dX2_slot_21 : decode cX2_slot 21 = .ok (.getfield 36, 3) := by decide +kernel
theorem dX2_slot_24 : decode cX2_slot 24 = .ok (.iload_n 1, 1) := by decide +kernel
theorem dX2_slot_25 : decode cX2_slot 25 = .ok (.isub, 1) := by decide +kernel
theorem dX2_slot_26 : decode cX2_slot 26 = .ok (.sipush 343, 3) := by decide +kernel
theorem dX2_slot_29 : decode cX2_slot 29 = .ok (.imul, 1) := by decide +kernel
theorem dX2_slot_30 : decode cX2_slot 30 = .ok (.iload 5, 2) := by decide +kernel
theorem dX2_slot_32 : decode cX2_slot 32 = .ok (.iadd, 1) := by decide +kernel
theorem dX2_slot_33 : decode cX2_slot 33 = .ok (.ireturn, 1) := by decide +kernel
end
section
theorem dX3_init_0 : decode cX3_init 0 = .ok (.aload_n 0, 1) := by decide +kernel
theorem dX3_init_1 : decode cX3_init 1 = .ok (.invokespecial 3, 3) := by decide +kernel
theorem dX3_init_4 : decode cX3_init 4 = .ok (.aload_n 0, 1) := by decide +kernel
theorem dX3_init_5 : decode cX3_init 5 = .ok (.bipush 9, 2) := by decide +kernel
theorem dX3_init_7 : decode cX3_init 7 = .ok (.newarray .int, 2) := by decide +kernel
theorem dX3_init_9 : decode cX3_init 9 = .ok (.putfield 9, 3) := by decide +kernel
theorem dX3_init_12 : decode cX3_init 12 = .ok (.return_, 1) := by decide +kernel
theorem dX3_bendAt_0 : decode cX3_bendAt 0 = .ok (.aload_n 0, 1) := by decide +kernel
theorem dX3_bendAt_1 : decode cX3_bendAt 1 = .ok (.getfield 9, 3) := by decide +kernel
theorem dX3_bendAt_4 : decode cX3_bendAt 4 = .ok (.iload_n 1, 1) := by decide +kernel
theorem dX3_bendAt_5 : decode cX3_bendAt 5 = .ok (.iconst 1, 1) := by decide +kernel
theorem dX3_bendAt_6 : decode cX3_bendAt 6 = .ok (.isub, 1) := by decide +kernel
theorem dX3_bendAt_7 : decode cX3_bendAt 7 = .ok (.iaload, 1) := by decide +kernel
theorem dX3_bendAt_8 : decode cX3_bendAt 8 = .ok (.aload_n 0, 1) := by decide +kernel
theorem dX3_bendAt_9 : decode cX3_bendAt 9 = .ok (.getfield 9, 3) := by decide +kernel
theorem dX3_bendAt_12 : decode cX3_bendAt 12 = .ok (.iload_n 1, 1) := by decide +kernel
theorem dX3_bendAt_13 : decode cX3_bendAt 13 = .ok (.iconst 1, 1) := by decide +kernel
theorem dX3_bendAt_14 : decode cX3_bendAt 14 = .ok (.iadd, 1) := by decide +kernel
theorem dX3_bendAt_15 : decode cX3_bendAt 15 = .ok (.iaload, 1) := by decide +kernel
theorem dX3_bendAt_16 : decode cX3_bendAt 16 = .ok (.iadd, 1) := by decide +kernel
theorem dX3_bendAt_17 : decode cX3_bendAt 17 = .ok (.iconst 2, 1) := by decide +kernel
theorem dX3_bendAt_18 : decode cX3_bendAt 18 = .ok (.aload_n 0, 1) := by decide +kernel
theorem dX3_bendAt_19 : decode cX3_bendAt 19 = .ok (.getfield 9, 3) := by decide +kernel
theorem dX3_bendAt_22 : decode cX3_bendAt 22 = .ok (.iload_n 1, 1) := by decide +kernel
theorem dX3_bendAt_23 : decode cX3_bendAt 23 = .ok (.iaload, 1) := by decide +kernel
theorem dX3_bendAt_24 : decode cX3_bendAt 24 = .ok (.imul, 1) := by decide +kernel
theorem dX3_bendAt_25 : decode cX3_bendAt 25 = .ok (.isub, 1) := by decide +kernel
theorem dX3_bendAt_26 : decode cX3_bendAt 26 = .ok (.ireturn, 1) := by decide +kernel
theorem dX3_jumpAt_0 : decode cX3_jumpAt 0 = .ok (.aload_n 0, 1) := by decide +kernel
theorem dX3_jumpAt_1 : decode cX3_jumpAt 1 = .ok (.iload_n 1, 1) := by decide +kernel
theorem dX3_jumpAt_2 : decode cX3_jumpAt 2 = .ok (.iconst 1, 1) := by decide +kernel
theorem dX3_jumpAt_3 : decode cX3_jumpAt 3 = .ok (.iadd, 1) := by decide +kernel
theorem dX3_jumpAt_4 : decode cX3_jumpAt 4 = .ok (.invokevirtual 15, 3) := by decide +kernel
theorem dX3_jumpAt_7 : decode cX3_jumpAt 7 = .ok (.aload_n 0, 1) := by decide +kernel
theorem dX3_jumpAt_8 : decode cX3_jumpAt 8 = .ok (.iload_n 1, 1) := by decide +kernel
theorem dX3_jumpAt_9 : decode cX3_jumpAt 9 = .ok (.invokevirtual 15, 3) := by decide +kernel
theorem dX3_jumpAt_12 : decode cX3_jumpAt 12 = .ok (.isub, 1) := by decide +kernel
theorem dX3_jumpAt_13 : decode cX3_jumpAt 13 = .ok (.ireturn, 1) := by decide +kernel
theorem dX3_farthestJump_0 : decode cX3_farthestJump 0 = .ok (.iconst 0, 1) := by decide +kernel
theorem dX3_farthestJump_1 : decode cX3_farthestJump 1 = .ok (.istore_n 1, 1) := by decide +kernel
theorem dX3_farthestJump_2 : decode cX3_farthestJump 2 = .ok (.iconst 1, 1) := by decide +kernel
theorem dX3_farthestJump_3 : decode cX3_farthestJump 3 = .ok (.istore_n 2, 1) := by decide +kernel
theorem dX3_farthestJump_4 : decode cX3_farthestJump 4 = .ok (.iload_n 2, 1) := by decide +kernel
theorem dX3_farthestJump_5 : decode cX3_farthestJump 5 = .ok (.aload_n 0, 1) := by decide +kernel
theorem dX3_farthestJump_6 : decode cX3_farthestJump 6 = .ok (.getfield 19, 3) := by decide +kernel
theorem dX3_farthestJump_9 : decode cX3_farthestJump 9 = .ok (.iconst 3, 1) := by decide +kernel
theorem dX3_farthestJump_10 : decode cX3_farthestJump 10 = .ok (.isub, 1) := by decide +kernel
theorem dX3_farthestJump_11 : decode cX3_farthestJump 11 = .ok (.if_icmp .gt 22, 3) := by decide +kernel
theorem dX3_farthestJump_14 : decode cX3_farthestJump 14 = .ok (.iload_n 1, 1) := by decide +kernel
theorem dX3_farthestJump_15 : decode cX3_farthestJump 15 = .ok (.aload_n 0, 1) := by decide +kernel
theorem dX3_farthestJump_16 : decode cX3_farthestJump 16 = .ok (.iload_n 2, 1) := by decide +kernel
theorem dX3_farthestJump_17 : decode cX3_farthestJump 17 = .ok (.invokevirtual 23, 3) := by decide +kernel
theorem dX3_farthestJump_20 : decode cX3_farthestJump 20 = .ok (.invokestatic 26, 3) := by decide +kernel
theorem dX3_farthestJump_23 : decode cX3_farthestJump 23 = .ok (.invokestatic 31, 3) := by decide +kernel
theorem dX3_farthestJump_26 : decode cX3_farthestJump 26 = .ok (.istore_n 1, 1) := by decide +kernel
theorem dX3_farthestJump_27 : decode cX3_farthestJump 27 = .ok (.iinc 2 1, 3) := by decide +kernel
theorem dX3_farthestJump_30 : decode cX3_farthestJump 30 = .ok (.goto (-26), 3) := by decide +kernel
theorem dX3_farthestJump_33 : decode cX3_farthestJump 33 = .ok (.iload_n 1, 1) := by decide +kernel
theorem dX3_farthestJump_34 : decode cX3_farthestJump 34 = .ok (.ireturn, 1) := by decide +kernel
theorem dX3_firstJumpThatFar_0 : decode cX3_firstJumpThatFar 0 = .ok (.iconst 1, 1) := by decide +kernel
theorem dX3_firstJumpThatFar_1 : decode cX3_firstJumpThatFar 1 = .ok (.istore_n 2, 1) := by decide +kernel
theorem dX3_firstJumpThatFar_2 : decode cX3_firstJumpThatFar 2 = .ok (.iload_n 2, 1) := by decide +kernel
theorem dX3_firstJumpThatFar_3 : decode cX3_firstJumpThatFar 3 = .ok (.aload_n 0, 1) := by decide +kernel
theorem dX3_firstJumpThatFar_4 : decode cX3_firstJumpThatFar 4 = .ok (.getfield 19, 3) := by decide +kernel
theorem dX3_firstJumpThatFar_7 : decode cX3_firstJumpThatFar 7 = .ok (.iconst 3, 1) := by decide +kernel
theorem dX3_firstJumpThatFar_8 : decode cX3_firstJumpThatFar 8 = .ok (.isub, 1) := by decide +kernel
theorem dX3_firstJumpThatFar_9 : decode cX3_firstJumpThatFar 9 = .ok (.if_icmp .ge 21, 3) := by decide +kernel
theorem dX3_firstJumpThatFar_12 : decode cX3_firstJumpThatFar 12 = .ok (.aload_n 0, 1) := by decide +kernel
theorem dX3_firstJumpThatFar_13 : decode cX3_firstJumpThatFar 13 = .ok (.iload_n 2, 1) := by decide +kernel
theorem dX3_firstJumpThatFar_14 : decode cX3_firstJumpThatFar 14 = .ok (.invokevirtual 23, 3) := by decide +kernel
theorem dX3_firstJumpThatFar_17 : decode cX3_firstJumpThatFar 17 = .ok (.invokestatic 26, 3) := by decide +kernel
theorem dX3_firstJumpThatFar_20 : decode cX3_firstJumpThatFar 20 = .ok (.iload_n 1, 1) := by decide +kernel
theorem dX3_firstJumpThatFar_21 : decode cX3_firstJumpThatFar 21 = .ok (.if_icmp .eq 9, 3) := by decide +kernel
theorem dX3_firstJumpThatFar_24 : decode cX3_firstJumpThatFar 24 = .ok (.iinc 2 1, 3) := by decide +kernel
theorem dX3_firstJumpThatFar_27 : decode cX3_firstJumpThatFar 27 = .ok (.goto (-25), 3) := by decide +kernel
theorem dX3_firstJumpThatFar_30 : decode cX3_firstJumpThatFar 30 = .ok (.iload_n 2, 1) := by decide +kernel
theorem dX3_firstJumpThatFar_31 : decode cX3_firstJumpThatFar 31 = .ok (.ireturn, 1) := by decide +kernel
theorem dX3_countJumpsBeyond_0 : decode cX3_countJumpsBeyond 0 = .ok (.iconst 0, 1) := by decide +kernel
theorem dX3_countJumpsBeyond_1 : decode cX3_countJumpsBeyond 1 = .ok (.istore_n 2, 1) := by decide +kernel
theorem dX3_countJumpsBeyond_2 : decode cX3_countJumpsBeyond 2 = .ok (.iconst 1, 1) := by decide +kernel
theorem dX3_countJumpsBeyond_3 : decode cX3_countJumpsBeyond 3 = .ok (.istore_n 3, 1) := by decide +kernel
theorem dX3_countJumpsBeyond_4 : decode cX3_countJumpsBeyond 4 = .ok (.iload_n 3, 1) := by decide +kernel
theorem dX3_countJumpsBeyond_5 : decode cX3_countJumpsBeyond 5 = .ok (.aload_n 0, 1) := by decide +kernel
theorem dX3_countJumpsBeyond_6 : decode cX3_countJumpsBeyond 6 = .ok (.getfield 19, 3) := by decide +kernel
theorem dX3_countJumpsBeyond_9 : decode cX3_countJumpsBeyond 9 = .ok (.iconst 3, 1) := by decide +kernel
theorem dX3_countJumpsBeyond_10 : decode cX3_countJumpsBeyond 10 = .ok (.isub, 1) := by decide +kernel
theorem dX3_countJumpsBeyond_11 : decode cX3_countJumpsBeyond 11 = .ok (.if_icmp .gt 24, 3) := by decide +kernel
theorem dX3_countJumpsBeyond_14 : decode cX3_countJumpsBeyond 14 = .ok (.aload_n 0, 1) := by decide +kernel
theorem dX3_countJumpsBeyond_15 : decode cX3_countJumpsBeyond 15 = .ok (.iload_n 3, 1) := by decide +kernel
theorem dX3_countJumpsBeyond_16 : decode cX3_countJumpsBeyond 16 = .ok (.invokevirtual 23, 3) := by decide +kernel
theorem dX3_countJumpsBeyond_19 : decode cX3_countJumpsBeyond 19 = .ok (.invokestatic 26, 3) := by decide +kernel
theorem dX3_countJumpsBeyond_22 : decode cX3_countJumpsBeyond 22 = .ok (.iload_n 1, 1) := by decide +kernel
theorem dX3_countJumpsBeyond_23 : decode cX3_countJumpsBeyond 23 = .ok (.if_icmp .le 6, 3) := by decide +kernel
theorem dX3_countJumpsBeyond_26 : decode cX3_countJumpsBeyond 26 = .ok (.iinc 2 1, 3) := by decide +kernel
theorem dX3_countJumpsBeyond_29 : decode cX3_countJumpsBeyond 29 = .ok (.iinc 3 1, 3) := by decide +kernel
theorem dX3_countJumpsBeyond_32 : decode cX3_countJumpsBeyond 32 = .ok (.goto (-28), 3) := by decide +kernel
theorem dX3_countJumpsBeyond_35 : decode cX3_countJumpsBeyond 35 = .ok (.iload_n 2, 1) := by decide +kernel
theorem dX3_countJumpsBeyond_36 : decode cX3_countJumpsBeyond 36 = .ok (.ireturn, 1) := by decide +kernel
end
section
theorem dX4_init_0 : decode cX4_init 0 = .ok (.aload_n 0, 1) := by decide +kernel
theorem dX4_init_1 : decode cX4_init 1 = .ok (.invokespecial 5, 3) := by decide +kernel
theorem dX4_init_4 : decode cX4_init 4 = .ok (.aload_n 0, 1) := by decide +kernel
theorem dX4_init_5 : decode cX4_init 5 = .ok (.new 11, 3) := by decide +kernel
theorem dX4_init_8 : decode cX4_init 8 = .ok (.dup, 1) := by decide +kernel
theorem dX4_init_9 : decode cX4_init 9 = .ok (.invokespecial 13, 3) := by decide +kernel
theorem dX4_init_12 : decode cX4_init 12 = .ok (.putfield 14, 3) := by decide +kernel
theorem dX4_init_15 : decode cX4_init 15 = .ok (.aload_n 0, 1) := by decide +kernel
theorem dX4_init_16 : decode cX4_init 16 = .ok (.new 18, 3) := by decide +kernel
theorem dX4_init_19 : decode cX4_init 19 = .ok (.dup, 1) := by decide +kernel
theorem dX4_init_20 : decode cX4_init 20 = .ok (.invokespecial 20, 3) := by decide +kernel
theorem dX4_init_23 : decode cX4_init 23 = .ok (.putfield 21, 3) := by decide +kernel
theorem dX4_init_26 : decode cX4_init 26 = .ok (.aload_n 0, 1) := by decide +kernel
theorem dX4_init_27 : decode cX4_init 27 = .ok (.new 25, 3) := by decide +kernel
theorem dX4_init_30 : decode cX4_init 30 = .ok (.dup, 1) := by decide +kernel
theorem dX4_init_31 : decode cX4_init 31 = .ok (.invokespecial 27, 3) := by decide +kernel
theorem dX4_init_34 : decode cX4_init 34 = .ok (.putfield 28, 3) := by decide +kernel
theorem dX4_init_37 : decode cX4_init 37 = .ok (.aload_n 0, 1) := by decide +kernel
theorem dX4_init_38 : decode cX4_init 38 = .ok (.new 32, 3) := by decide +kernel
theorem dX4_init_41 : decode cX4_init 41 = .ok (.dup, 1) := by decide +kernel
theorem dX4_init_42 : decode cX4_init 42 = .ok (.invokespecial 34, 3) := by decide +kernel
theorem dX4_init_45 : decode cX4_init 45 = .ok (.putfield 35, 3) := by decide +kernel
theorem dX4_init_48 : decode cX4_init 48 = .ok (.aload_n 0, 1) := by decide +kernel
theorem dX4_init_49 : decode cX4_init 49 = .ok (.getstatic 39, 3) := by decide +kernel
theorem dX4_init_52 : decode cX4_init 52 = .ok (.invokevirtual 43, 3) := by decide +kernel
theorem dX4_init_55 : decode cX4_init 55 = .ok (.checkcast 44, 3) := by decide +kernel
theorem dX4_init_58 : decode cX4_init 58 = .ok (.putfield 48, 3) := by decide +kernel
theorem dX4_init_61 : decode cX4_init 61 = .ok (.aload_n 0, 1) := by decide +kernel
theorem dX4_init_62 : decode cX4_init 62 = .ok (.bipush 63, 2) := by decide +kernel
theorem dX4_init_64 : decode cX4_init 64 = .ok (.newarray .int, 2) := by decide +kernel
theorem dX4_init_66 : decode cX4_init 66 = .ok (.putfield 51, 3) := by decide +kernel
theorem dX4_init_69 : decode cX4_init 69 = .ok (.aload_n 0, 1) := by decide +kernel
theorem dX4_init_70 : decode cX4_init 70 = .ok (.bipush 9, 2) := by decide +kernel
theorem dX4_init_72 : decode cX4_init 72 = .ok (.newarray .int, 2) := by decide +kernel
theorem dX4_init_74 : decode cX4_init 74 = .ok (.putfield 54, 3) := by decide +kernel
theorem dX4_init_77 : decode cX4_init 77 = .ok (.aload_n 0, 1) := by decide +kernel
theorem dX4_init_78 : decode cX4_init 78 = .ok (.getfield 14, 3) := by decide +kernel
theorem dX4_init_81 : decode cX4_init 81 = .ok (.bipush 7, 2) := by decide +kernel
theorem dX4_init_83 : decode cX4_init 83 = .ok (.iconst 5, 1) := by decide +kernel
theorem dX4_init_84 : decode cX4_init 84 = .ok (.invokevirtual 57, 3) := by decide +kernel
theorem dX4_init_87 : decode cX4_init 87 = .ok (.return_, 1) := by decide +kernel
theorem dX4_hull_0 : decode cX4_hull 0 = .ok (.iload_n 1, 1) := by decide +kernel
theorem dX4_hull_1 : decode cX4_hull 1 = .ok (.iconst 5, 1) := by decide +kernel
theorem dX4_hull_2 : decode cX4_hull 2 = .ok (.bipush 9, 2) := by decide +kernel
theorem dX4_hull_4 : decode cX4_hull 4 = .ok (.invokestatic 61, 3) := by decide +kernel
theorem dX4_hull_7 : decode cX4_hull 7 = .ok (.ifCond .ne 13, 3) := by decide +kernel
theorem dX4_hull_10 : decode cX4_hull 10 = .ok (.iload_n 2, 1) := by decide +kernel
theorem dX4_hull_11 : decode cX4_hull 11 = .ok (.iconst 4, 1) := by decide +kernel
theorem dX4_hull_12 : decode cX4_hull 12 = .ok (.bipush 7, 2) := by decide +kernel
theorem dX4_hull_14 : decode cX4_hull 14 = .ok (.invokestatic 61, 3) := by decide +kernel
theorem dX4_hull_17 : decode cX4_hull 17 = .ok (.ifCond .eq 6, 3) := by decide +kernel
theorem dX4_hull_20 : decode cX4_hull 20 = .ok (.bipush (-2), 2) := by decide +kernel
theorem dX4_hull_22 : decode cX4_hull 22 = .ok (.ireturn, 1) := by decide +kernel
theorem dX4_hull_23 : decode cX4_hull 23 = .ok (.aload_n 0, 1) := by decide +kernel
theorem dX4_hull_24 : decode cX4_hull 24 = .ok (.getfield 14, 3) := by decide +kernel
theorem dX4_hull_27 : decode cX4_hull 27 = .ok (.iload_n 1, 1) := by decide +kernel
theorem dX4_hull_28 : decode cX4_hull 28 = .ok (.iload_n 2, 1) := by decide +kernel
theorem dX4_hull_29 : decode cX4_hull 29 = .ok (.invokevirtual 57, 3) := by decide +kernel
theorem dX4_hull_32 : decode cX4_hull 32 = .ok (.iconst 1, 1) := by decide +kernel
theorem dX4_hull_33 : decode cX4_hull 33 = .ok (.ireturn, 1) := by decide +kernel
theorem dX4_offset_0 : decode cX4_offset 0 = .ok (.aload_n 0, 1) := by decide +kernel
theorem dX4_offset_1 : decode cX4_offset 1 = .ok (.getfield 14, 3) := by decide +kernel
theorem dX4_offset_4 : decode cX4_offset 4 = .ok (.iload_n 1, 1) := by decide +kernel
theorem dX4_offset_5 : decode cX4_offset 5 = .ok (.iload_n 2, 1) := by decide +kernel
theorem dX4_offset_6 : decode cX4_offset 6 = .ok (.invokevirtual 65, 3) := by decide +kernel
theorem dX4_offset_9 : decode cX4_offset 9 = .ok (.ifCond .ne 5, 3) := by decide +kernel
theorem dX4_offset_12 : decode cX4_offset 12 = .ok (.iconst (-1), 1) := by decide +kernel
theorem dX4_offset_13 : decode cX4_offset 13 = .ok (.ireturn, 1) := by decide +kernel
theorem dX4_offset_14 : decode cX4_offset 14 = .ok (.iload_n 3, 1) := by decide +kernel
theorem dX4_offset_15 : decode cX4_offset 15 = .ok (.iconst 0, 1) := by decide +kernel
theorem dX4_offset_16 : decode cX4_offset 16 = .ok (.sipush 999, 3) := by decide +kernel
theorem dX4_offset_19 : decode cX4_offset 19 = .ok (.invokestatic 61, 3) := by decide +kernel
theorem dX4_offset_22 : decode cX4_offset 22 = .ok (.ifCond .eq 6, 3) := by decide +kernel
theorem dX4_offset_25 : decode cX4_offset 25 = .ok (.bipush (-2), 2) := by decide +kernel
theorem dX4_offset_27 : decode cX4_offset 27 = .ok (.ireturn, 1) := by decide +kernel
theorem dX4_offset_28 : decode cX4_offset 28 = .ok (.aload_n 0, 1) := by decide +kernel
theorem dX4_offset_29 : decode cX4_offset 29 = .ok (.getfield 14, 3) := by decide +kernel
theorem dX4_offset_32 : decode cX4_offset 32 = .ok (.iload_n 1, 1) := by decide +kernel
theorem dX4_offset_33 : decode cX4_offset 33 = .ok (.iload_n 2, 1) := by decide +kernel
theorem dX4_offset_34 : decode cX4_offset 34 = .ok (.invokestatic 69, 3) := by decide +kernel
theorem dX4_offset_37 : decode cX4_offset 37 = .ok (.iload_n 3, 1) := by decide +kernel
theorem dX4_offset_38 : decode cX4_offset 38 = .ok (.invokevirtual 73, 3) := by decide +kernel
theorem dX4_offset_41 : decode cX4_offset 41 = .ok (.ireturn, 1) := by decide +kernel
theorem dX4_hold_0 : decode cX4_hold 0 = .ok (.aload_n 0, 1) := by decide +kernel
theorem dX4_hold_1 : decode cX4_hold 1 = .ok (.getfield 14, 3) := by decide +kernel
theorem dX4_hold_4 : decode cX4_hold 4 = .ok (.iload_n 1, 1) := by decide +kernel
theorem dX4_hold_5 : decode cX4_hold 5 = .ok (.iload_n 2, 1) := by decide +kernel
theorem dX4_hold_6 : decode cX4_hold 6 = .ok (.invokevirtual 65, 3) := by decide +kernel
theorem dX4_hold_9 : decode cX4_hold 9 = .ok (.ifCond .ne 5, 3) := by decide +kernel
theorem dX4_hold_12 : decode cX4_hold 12 = .ok (.iconst (-1), 1) := by decide +kernel
theorem dX4_hold_13 : decode cX4_hold 13 = .ok (.ireturn, 1) := by decide +kernel
theorem dX4_hold_14 : decode cX4_hold 14 = .ok (.iload_n 1, 1) := by decide +kernel
theorem dX4_hold_15 : decode cX4_hold 15 = .ok (.iload_n 2, 1) := by decide +kernel
theorem dX4_hold_16 : decode cX4_hold 16 = .ok (.invokestatic 69, 3) := by decide +kernel
theorem dX4_hold_19 : decode cX4_hold 19 = .ok (.istore 4, 2) := by decide +kernel
theorem dX4_hold_21 : decode cX4_hold 21 = .ok (.aload_n 0, 1) := by decide +kernel
theorem dX4_hold_22 : decode cX4_hold 22 = .ok (.getfield 14, 3) := by decide +kernel
theorem dX4_hold_25 : decode cX4_hold 25 = .ok (.getfield 76, 3) := by decide +kernel
theorem dX4_hold_28 : decode cX4_hold 28 = .ok (.iload 4, 2) := by decide +kernel
theorem dX4_hold_30 : decode cX4_hold 30 = .ok (.baload, 1) := by decide +kernel
theorem dX4_hold_31 : decode cX4_hold 31 = .ok (.iload_n 3, 1) := by decide +kernel
theorem dX4_hold_32 : decode cX4_hold 32 = .ok (.if_icmp .ne 5, 3) := by decide +kernel
theorem dX4_hold_35 : decode cX4_hold 35 = .ok (.iconst 0, 1) := by decide +kernel
theorem dX4_hold_36 : decode cX4_hold 36 = .ok (.ireturn, 1) := by decide +kernel
theorem dX4_hold_37 : decode cX4_hold 37 = .ok (.aload_n 0, 1) := by decide +kernel
theorem dX4_hold_38 : decode cX4_hold 38 = .ok (.getfield 14, 3) := by decide +kernel
theorem dX4_hold_41 : decode cX4_hold 41 = .ok (.getfield 76, 3) := by decide +kernel
theorem dX4_hold_44 : decode cX4_hold 44 = .ok (.iload 4, 2) := by decide +kernel
theorem dX4_hold_46 : decode cX4_hold 46 = .ok (.iload_n 3, 1) := by decide +kernel
theorem dX4_hold_47 : decode cX4_hold 47 = .ok (.bastore, 1) := by decide +kernel
theorem dX4_hold_48 : decode cX4_hold 48 = .ok (.iconst 1, 1) := by decide +kernel
theorem dX4_hold_49 : decode cX4_hold 49 = .ok (.ireturn, 1) := by decide +kernel
theorem dX4_setting_0 : decode cX4_setting 0 = .ok (.iload_n 1, 1) := by decide +kernel
theorem dX4_setting_1 : decode cX4_setting 1 = .ok (.ifCond .lt 29, 3) := by decide +kernel
theorem dX4_setting_4 : decode cX4_setting 4 = .ok (.iload_n 1, 1) := by decide +kernel
theorem dX4_setting_5 : decode cX4_setting 5 = .ok (.aload_n 0, 1) := by decide +kernel
theorem dX4_setting_6 : decode cX4_setting 6 = .ok (.getfield 48, 3) := by decide +kernel
theorem dX4_setting_9 : decode cX4_setting 9 = .ok (.arraylength, 1) := by decide +kernel
theorem dX4_setting_10 : decode cX4_setting 10 = .ok (.if_icmp .ge 20, 3) := by decide +kernel
theorem dX4_setting_13 : decode cX4_setting 13 = .ok (.iload_n 2, 1) := by decide +kernel
theorem dX4_setting_14 : decode cX4_setting 14 = .ok (.getstatic 80, 3) := by decide +kernel
theorem dX4_setting_17 : decode cX4_setting 17 = .ok (.iload_n 1, 1) := by decide +kernel
theorem dX4_setting_18 : decode cX4_setting 18 = .ok (.iaload, 1) := by decide +kernel
theorem dX4_setting_19 : decode cX4_setting 19 = .ok (.getstatic 83, 3) := by decide +kernel
theorem dX4_setting_22 : decode cX4_setting 22 = .ok (.iload_n 1, 1) := by decide +kernel
theorem dX4_setting_23 : decode cX4_setting 23 = .ok (.iaload, 1) := by decide +kernel
theorem dX4_setting_24 : decode cX4_setting 24 = .ok (.invokestatic 61, 3) := by decide +kernel
theorem dX4_setting_27 : decode cX4_setting 27 = .ok (.ifCond .eq 6, 3) := by decide +kernel
theorem dX4_setting_30 : decode cX4_setting 30 = .ok (.bipush (-2), 2) := by decide +kernel
theorem dX4_setting_32 : decode cX4_setting 32 = .ok (.ireturn, 1) := by decide +kernel
theorem dX4_setting_33 : decode cX4_setting 33 = .ok (.aload_n 0, 1) := by decide +kernel
theorem dX4_setting_34 : decode cX4_setting 34 = .ok (.getfield 48, 3) := by decide +kernel
theorem dX4_setting_37 : decode cX4_setting 37 = .ok (.iload_n 1, 1) := by decide +kernel
theorem dX4_setting_38 : decode cX4_setting 38 = .ok (.iaload, 1) := by decide +kernel
theorem dX4_setting_39 : decode cX4_setting 39 = .ok (.istore_n 3, 1) := by decide +kernel
theorem dX4_setting_40 : decode cX4_setting 40 = .ok (.aload_n 0, 1) := by decide +kernel
theorem dX4_setting_41 : decode cX4_setting 41 = .ok (.getfield 48, 3) := by decide +kernel
theorem dX4_setting_44 : decode cX4_setting 44 = .ok (.iload_n 1, 1) := by decide +kernel
theorem dX4_setting_45 : decode cX4_setting 45 = .ok (.iload_n 2, 1) := by decide +kernel
theorem dX4_setting_46 : decode cX4_setting 46 = .ok (.iastore, 1) := by decide +kernel
theorem dX4_setting_47 : decode cX4_setting 47 = .ok (.iload_n 3, 1) := by decide +kernel
theorem dX4_setting_48 : decode cX4_setting 48 = .ok (.ireturn, 1) := by decide +kernel
theorem dX4_ofPoint_0 : decode cX4_ofPoint 0 = .ok (.aload_n 0, 1) := by decide +kernel
theorem dX4_ofPoint_1 : decode cX4_ofPoint 1 = .ok (.getfield 14, 3) := by decide +kernel
theorem dX4_ofPoint_4 : decode cX4_ofPoint 4 = .ok (.iload_n 1, 1) := by decide +kernel
theorem dX4_ofPoint_5 : decode cX4_ofPoint 5 = .ok (.iload_n 2, 1) := by decide +kernel
theorem dX4_ofPoint_6 : decode cX4_ofPoint 6 = .ok (.invokevirtual 65, 3) := by decide +kernel
theorem dX4_ofPoint_9 : decode cX4_ofPoint 9 = .ok (.ifCond .ne 5, 3) := by decide +kernel
theorem dX4_ofPoint_12 : decode cX4_ofPoint 12 = .ok (.iconst (-1), 1) := by decide +kernel
theorem dX4_ofPoint_13 : decode cX4_ofPoint 13 = .ok (.ireturn, 1) := by decide +kernel
theorem dX4_ofPoint_14 : decode cX4_ofPoint 14 = .ok (.iload_n 1, 1) := by decide +kernel
theorem dX4_ofPoint_15 : decode cX4_ofPoint 15 = .ok (.iload_n 2, 1) := by decide +kernel
theorem dX4_ofPoint_16 : decode cX4_ofPoint 16 = .ok (.invokestatic 69, 3) := by decide +kernel
theorem dX4_ofPoint_19 : decode cX4_ofPoint 19 = .ok (.istore 4, 2) := by decide +kernel
theorem dX4_ofPoint_21 : decode cX4_ofPoint 21 = .ok (.iload_n 3, 1) := by decide +kernel
theorem dX4_ofPoint_22 : decode cX4_ofPoint 22 = .ok (.tableswitch 66 0 2 #[26, 37, 56], 26) := by decide +kernel
theorem dX4_ofPoint_48 : decode cX4_ofPoint 48 = .ok (.aload_n 0, 1) := by decide +kernel
theorem dX4_ofPoint_49 : decode cX4_ofPoint 49 = .ok (.getfield 14, 3) := by decide +kernel
theorem dX4_ofPoint_52 : decode cX4_ofPoint 52 = .ok (.getfield 86, 3) := by decide +kernel
theorem dX4_ofPoint_55 : decode cX4_ofPoint 55 = .ok (.iload 4, 2) := by decide +kernel
theorem dX4_ofPoint_57 : decode cX4_ofPoint 57 = .ok (.iaload, 1) := by decide +kernel
theorem dX4_ofPoint_58 : decode cX4_ofPoint 58 = .ok (.ireturn, 1) := by decide +kernel
theorem dX4_ofPoint_59 : decode cX4_ofPoint 59 = .ok (.aload_n 0, 1) := by decide +kernel
theorem dX4_ofPoint_60 : decode cX4_ofPoint 60 = .ok (.getfield 14, 3) := by decide +kernel
theorem dX4_ofPoint_63 : decode cX4_ofPoint 63 = .ok (.getfield 76, 3) := by decide +kernel
theorem dX4_ofPoint_66 : decode cX4_ofPoint 66 = .ok (.iload 4, 2) := by decide +kernel
theorem dX4_ofPoint_68 : decode cX4_ofPoint 68 = .ok (.baload, 1) := by decide +kernel
theorem dX4_ofPoint_69 : decode cX4_ofPoint 69 = .ok (.ifCond .eq 7, 3) := by decide +kernel
theorem dX4_ofPoint_72 : decode cX4_ofPoint 72 = .ok (.iconst 1, 1) := by decide +kernel
theorem dX4_ofPoint_73 : decode cX4_ofPoint 73 = .ok (.goto 4, 3) := by decide +kernel
theorem dX4_ofPoint_76 : decode cX4_ofPoint 76 = .ok (.iconst 0, 1) := by decide +kernel
theorem dX4_ofPoint_77 : decode cX4_ofPoint 77 = .ok (.ireturn, 1) := by decide +kernel
theorem dX4_ofPoint_78 : decode cX4_ofPoint 78 = .ok (.aload_n 0, 1) := by decide +kernel
theorem dX4_ofPoint_79 : decode cX4_ofPoint 79 = .ok (.getfield 14, 3) := by decide +kernel
theorem dX4_ofPoint_82 : decode cX4_ofPoint 82 = .ok (.iload 4, 2) := by decide +kernel
theorem dX4_ofPoint_84 : decode cX4_ofPoint 84 = .ok (.invokevirtual 89, 3) := by decide +kernel
theorem dX4_ofPoint_87 : decode cX4_ofPoint 87 = .ok (.ireturn, 1) := by decide +kernel
theorem dX4_ofPoint_88 : decode cX4_ofPoint 88 = .ok (.bipush (-2), 2) := by decide +kernel
theorem dX4_ofPoint_90 : decode cX4_ofPoint 90 = .ok (.ireturn, 1) := by decide +kernel
theorem dX4_bend_0 : decode cX4_bend 0 = .ok (.aload_n 0, 1) := by decide +kernel
theorem dX4_bend_1 : decode cX4_bend 1 = .ok (.iload_n 1, 1) := by decide +kernel
theorem dX4_bend_2 : decode cX4_bend 2 = .ok (.iload_n 2, 1) := by decide +kernel
theorem dX4_bend_3 : decode cX4_bend 3 = .ok (.invokevirtual 93, 3) := by decide +kernel
theorem dX4_bend_6 : decode cX4_bend 6 = .ok (.istore 4, 2) := by decide +kernel
theorem dX4_bend_8 : decode cX4_bend 8 = .ok (.iload 4, 2) := by decide +kernel
theorem dX4_bend_10 : decode cX4_bend 10 = .ok (.ifCond .eq 6, 3) := by decide +kernel
theorem dX4_bend_13 : decode cX4_bend 13 = .ok (.iload 4, 2) := by decide +kernel
theorem dX4_bend_15 : decode cX4_bend 15 = .ok (.ireturn, 1) := by decide +kernel
theorem dX4_bend_16 : decode cX4_bend 16 = .ok (.aload_n 0, 1) := by decide +kernel
theorem dX4_bend_17 : decode cX4_bend 17 = .ok (.iload_n 1, 1) := by decide +kernel
theorem dX4_bend_18 : decode cX4_bend 18 = .ok (.iload_n 2, 1) := by decide +kernel
theorem dX4_bend_19 : decode cX4_bend 19 = .ok (.invokevirtual 96, 3) := by decide +kernel
theorem dX4_bend_22 : decode cX4_bend 22 = .ok (.iload_n 3, 1) := by decide +kernel
theorem dX4_bend_23 : decode cX4_bend 23 = .ok (.iconst 1, 1) := by decide +kernel
theorem dX4_bend_24 : decode cX4_bend 24 = .ok (.aload_n 0, 1) := by decide +kernel
theorem dX4_bend_25 : decode cX4_bend 25 = .ok (.getfield 21, 3) := by decide +kernel
theorem dX4_bend_28 : decode cX4_bend 28 = .ok (.getfield 99, 3) := by decide +kernel
theorem dX4_bend_31 : decode cX4_bend 31 = .ok (.iconst 2, 1) := by decide +kernel
theorem dX4_bend_32 : decode cX4_bend 32 = .ok (.isub, 1) := by decide +kernel
theorem dX4_bend_33 : decode cX4_bend 33 = .ok (.invokestatic 61, 3) := by decide +kernel
theorem dX4_bend_36 : decode cX4_bend 36 = .ok (.ifCond .eq 8, 3) := by decide +kernel
theorem dX4_bend_39 : decode cX4_bend 39 = .ok (.bipush (-2), 2) := by decide +kernel
theorem dX4_bend_41 : decode cX4_bend 41 = .ok (.goto 11, 3) := by decide +kernel
theorem dX4_bend_44 : decode cX4_bend 44 = .ok (.aload_n 0, 1) := by decide +kernel
theorem dX4_bend_45 : decode cX4_bend 45 = .ok (.getfield 21, 3) := by decide +kernel
theorem dX4_bend_48 : decode cX4_bend 48 = .ok (.iload_n 3, 1) := by decide +kernel
theorem dX4_bend_49 : decode cX4_bend 49 = .ok (.invokevirtual 103, 3) := by decide +kernel
theorem dX4_bend_52 : decode cX4_bend 52 = .ok (.ireturn, 1) := by decide +kernel
theorem dX4_jump_0 : decode cX4_jump 0 = .ok (.aload_n 0, 1) := by decide +kernel
theorem dX4_jump_1 : decode cX4_jump 1 = .ok (.iload_n 1, 1) := by decide +kernel
theorem dX4_jump_2 : decode cX4_jump 2 = .ok (.iload_n 2, 1) := by decide +kernel
theorem dX4_jump_3 : decode cX4_jump 3 = .ok (.invokevirtual 93, 3) := by decide +kernel
theorem dX4_jump_6 : decode cX4_jump 6 = .ok (.istore 4, 2) := by decide +kernel
theorem dX4_jump_8 : decode cX4_jump 8 = .ok (.iload 4, 2) := by decide +kernel
theorem dX4_jump_10 : decode cX4_jump 10 = .ok (.ifCond .eq 6, 3) := by decide +kernel
theorem dX4_jump_13 : decode cX4_jump 13 = .ok (.iload 4, 2) := by decide +kernel
theorem dX4_jump_15 : decode cX4_jump 15 = .ok (.ireturn, 1) := by decide +kernel
theorem dX4_jump_16 : decode cX4_jump 16 = .ok (.aload_n 0, 1) := by decide +kernel
theorem dX4_jump_17 : decode cX4_jump 17 = .ok (.iload_n 1, 1) := by decide +kernel
theorem dX4_jump_18 : decode cX4_jump 18 = .ok (.iload_n 2, 1) := by decide +kernel
theorem dX4_jump_19 : decode cX4_jump 19 = .ok (.invokevirtual 96, 3) := by decide +kernel
theorem dX4_jump_22 : decode cX4_jump 22 = .ok (.iload_n 3, 1) := by decide +kernel
theorem dX4_jump_23 : decode cX4_jump 23 = .ok (.iconst 1, 1) := by decide +kernel
theorem dX4_jump_24 : decode cX4_jump 24 = .ok (.aload_n 0, 1) := by decide +kernel
theorem dX4_jump_25 : decode cX4_jump 25 = .ok (.getfield 21, 3) := by decide +kernel
theorem dX4_jump_28 : decode cX4_jump 28 = .ok (.getfield 99, 3) := by decide +kernel
theorem dX4_jump_31 : decode cX4_jump 31 = .ok (.iconst 3, 1) := by decide +kernel
theorem dX4_jump_32 : decode cX4_jump 32 = .ok (.isub, 1) := by decide +kernel
theorem dX4_jump_33 : decode cX4_jump 33 = .ok (.invokestatic 61, 3) := by decide +kernel
theorem dX4_jump_36 : decode cX4_jump 36 = .ok (.ifCond .eq 8, 3) := by decide +kernel
theorem dX4_jump_39 : decode cX4_jump 39 = .ok (.bipush (-2), 2) := by decide +kernel
theorem dX4_jump_41 : decode cX4_jump 41 = .ok (.goto 11, 3) := by decide +kernel
theorem dX4_jump_44 : decode cX4_jump 44 = .ok (.aload_n 0, 1) := by decide +kernel
theorem dX4_jump_45 : decode cX4_jump 45 = .ok (.getfield 21, 3) := by decide +kernel
theorem dX4_jump_48 : decode cX4_jump 48 = .ok (.iload_n 3, 1) := by decide +kernel
theorem dX4_jump_49 : decode cX4_jump 49 = .ok (.invokevirtual 106, 3) := by decide +kernel
theorem dX4_jump_52 : decode cX4_jump 52 = .ok (.ireturn, 1) := by decide +kernel
theorem dX4_roughest_0 : decode cX4_roughest 0 = .ok (.iload_n 1, 1) := by decide +kernel
theorem dX4_roughest_1 : decode cX4_roughest 1 = .ok (.iconst 0, 1) := by decide +kernel
theorem dX4_roughest_2 : decode cX4_roughest 2 = .ok (.iconst 3, 1) := by decide +kernel
theorem dX4_roughest_3 : decode cX4_roughest 3 = .ok (.invokestatic 61, 3) := by decide +kernel
theorem dX4_roughest_6 : decode cX4_roughest 6 = .ok (.ifCond .eq 6, 3) := by decide +kernel
theorem dX4_roughest_9 : decode cX4_roughest 9 = .ok (.bipush (-2), 2) := by decide +kernel
theorem dX4_roughest_11 : decode cX4_roughest 11 = .ok (.ireturn, 1) := by decide +kernel
theorem dX4_roughest_12 : decode cX4_roughest 12 = .ok (.iconst 0, 1) := by decide +kernel
theorem dX4_roughest_13 : decode cX4_roughest 13 = .ok (.istore_n 2, 1) := by decide +kernel
theorem dX4_roughest_14 : decode cX4_roughest 14 = .ok (.iconst 0, 1) := by decide +kernel
theorem dX4_roughest_15 : decode cX4_roughest 15 = .ok (.istore_n 3, 1) := by decide +kernel
theorem dX4_roughest_16 : decode cX4_roughest 16 = .ok (.iconst 0, 1) := by decide +kernel
theorem dX4_roughest_17 : decode cX4_roughest 17 = .ok (.istore 4, 2) := by decide +kernel
theorem dX4_roughest_19 : decode cX4_roughest 19 = .ok (.iconst 0, 1) := by decide +kernel
theorem dX4_roughest_20 : decode cX4_roughest 20 = .ok (.istore 5, 2) := by decide +kernel
theorem dX4_roughest_22 : decode cX4_roughest 22 = .ok (.iload 5, 2) := by decide +kernel
theorem dX4_roughest_24 : decode cX4_roughest 24 = .ok (.iconst 2, 1) := by decide +kernel
theorem dX4_roughest_25 : decode cX4_roughest 25 = .ok (.if_icmp .ge 66, 3) := by decide +kernel
theorem dX4_roughest_28 : decode cX4_roughest 28 = .ok (.iconst 0, 1) := by decide +kernel
theorem dX4_roughest_29 : decode cX4_roughest 29 = .ok (.istore 6, 2) := by decide +kernel
theorem dX4_roughest_31 : decode cX4_roughest 31 = .ok (.iload 6, 2) := by decide +kernel
theorem dX4_roughest_33 : decode cX4_roughest 33 = .ok (.aload_n 0, 1) := by decide +kernel
theorem dX4_roughest_34 : decode cX4_roughest 34 = .ok (.getfield 14, 3) := by decide +kernel
theorem dX4_roughest_37 : decode cX4_roughest 37 = .ok (.iload 5, 2) := by decide +kernel
theorem dX4_roughest_39 : decode cX4_roughest 39 = .ok (.invokevirtual 109, 3) := by decide +kernel
theorem dX4_roughest_42 : decode cX4_roughest 42 = .ok (.if_icmp .ge 43, 3) := by decide +kernel
theorem dX4_roughest_45 : decode cX4_roughest 45 = .ok (.aload_n 0, 1) := by decide +kernel
theorem dX4_roughest_46 : decode cX4_roughest 46 = .ok (.iload 5, 2) := by decide +kernel
theorem dX4_roughest_48 : decode cX4_roughest 48 = .ok (.iload 6, 2) := by decide +kernel
theorem dX4_roughest_50 : decode cX4_roughest 50 = .ok (.invokevirtual 96, 3) := by decide +kernel
theorem dX4_roughest_53 : decode cX4_roughest 53 = .ok (.aload_n 0, 1) := by decide +kernel
theorem dX4_roughest_54 : decode cX4_roughest 54 = .ok (.getfield 21, 3) := by decide +kernel
theorem dX4_roughest_57 : decode cX4_roughest 57 = .ok (.invokevirtual 112, 3) := by decide +kernel
theorem dX4_roughest_60 : decode cX4_roughest 60 = .ok (.iload_n 2, 1) := by decide +kernel
theorem dX4_roughest_61 : decode cX4_roughest 61 = .ok (.if_icmp .le 18, 3) := by decide +kernel
theorem dX4_roughest_64 : decode cX4_roughest 64 = .ok (.aload_n 0, 1) := by decide +kernel
theorem dX4_roughest_65 : decode cX4_roughest 65 = .ok (.getfield 21, 3) := by decide +kernel
theorem dX4_roughest_68 : decode cX4_roughest 68 = .ok (.invokevirtual 112, 3) := by decide +kernel
theorem dX4_roughest_71 : decode cX4_roughest 71 = .ok (.istore_n 2, 1) := by decide +kernel
theorem dX4_roughest_72 : decode cX4_roughest 72 = .ok (.iload 5, 2) := by decide +kernel
theorem dX4_roughest_74 : decode cX4_roughest 74 = .ok (.istore_n 3, 1) := by decide +kernel
theorem dX4_roughest_75 : decode cX4_roughest 75 = .ok (.iload 6, 2) := by decide +kernel
theorem dX4_roughest_77 : decode cX4_roughest 77 = .ok (.istore 4, 2) := by decide +kernel
theorem dX4_roughest_79 : decode cX4_roughest 79 = .ok (.iinc 6 1, 3) := by decide +kernel
theorem dX4_roughest_82 : decode cX4_roughest 82 = .ok (.goto (-51), 3) := by decide +kernel
theorem dX4_roughest_85 : decode cX4_roughest 85 = .ok (.iinc 5 1, 3) := by decide +kernel
theorem dX4_roughest_88 : decode cX4_roughest 88 = .ok (.goto (-66), 3) := by decide +kernel
theorem dX4_roughest_91 : decode cX4_roughest 91 = .ok (.iload_n 1, 1) := by decide +kernel
theorem dX4_roughest_92 : decode cX4_roughest 92 = .ok (.tableswitch 35 0 2 #[28, 30, 32], 28) := by decide +kernel
theorem dX4_roughest_120 : decode cX4_roughest 120 = .ok (.iload_n 2, 1) := by decide +kernel
theorem dX4_roughest_121 : decode cX4_roughest 121 = .ok (.ireturn, 1) := by decide +kernel
theorem dX4_roughest_122 : decode cX4_roughest 122 = .ok (.iload_n 3, 1) := by decide +kernel
theorem dX4_roughest_123 : decode cX4_roughest 123 = .ok (.ireturn, 1) := by decide +kernel
theorem dX4_roughest_124 : decode cX4_roughest 124 = .ok (.iload 4, 2) := by decide +kernel
theorem dX4_roughest_126 : decode cX4_roughest 126 = .ok (.ireturn, 1) := by decide +kernel
theorem dX4_roughest_127 : decode cX4_roughest 127 = .ok (.aload_n 0, 1) := by decide +kernel
theorem dX4_roughest_128 : decode cX4_roughest 128 = .ok (.iload_n 3, 1) := by decide +kernel
theorem dX4_roughest_129 : decode cX4_roughest 129 = .ok (.iload 4, 2) := by decide +kernel
theorem dX4_roughest_131 : decode cX4_roughest 131 = .ok (.invokevirtual 96, 3) := by decide +kernel
theorem dX4_roughest_134 : decode cX4_roughest 134 = .ok (.aload_n 0, 1) := by decide +kernel
theorem dX4_roughest_135 : decode cX4_roughest 135 = .ok (.getfield 21, 3) := by decide +kernel
theorem dX4_roughest_138 : decode cX4_roughest 138 = .ok (.iload_n 2, 1) := by decide +kernel
theorem dX4_roughest_139 : decode cX4_roughest 139 = .ok (.invokevirtual 116, 3) := by decide +kernel
theorem dX4_roughest_142 : decode cX4_roughest 142 = .ok (.ireturn, 1) := by decide +kernel
theorem dX4_rough_0 : decode cX4_rough 0 = .ok (.aload_n 0, 1) := by decide +kernel
theorem dX4_rough_1 : decode cX4_rough 1 = .ok (.iload_n 1, 1) := by decide +kernel
theorem dX4_rough_2 : decode cX4_rough 2 = .ok (.iload_n 2, 1) := by decide +kernel
theorem dX4_rough_3 : decode cX4_rough 3 = .ok (.invokevirtual 93, 3) := by decide +kernel
theorem dX4_rough_6 : decode cX4_rough 6 = .ok (.istore_n 3, 1) := by decide +kernel
theorem dX4_rough_7 : decode cX4_rough 7 = .ok (.iload_n 3, 1) := by decide +kernel
theorem dX4_rough_8 : decode cX4_rough 8 = .ok (.ifCond .eq 5, 3) := by decide +kernel
theorem dX4_rough_11 : decode cX4_rough 11 = .ok (.iload_n 3, 1) := by decide +kernel
theorem dX4_rough_12 : decode cX4_rough 12 = .ok (.ireturn, 1) := by decide +kernel
theorem dX4_rough_13 : decode cX4_rough 13 = .ok (.aload_n 0, 1) := by decide +kernel
theorem dX4_rough_14 : decode cX4_rough 14 = .ok (.iload_n 1, 1) := by decide +kernel
theorem dX4_rough_15 : decode cX4_rough 15 = .ok (.iload_n 2, 1) := by decide +kernel
theorem dX4_rough_16 : decode cX4_rough 16 = .ok (.invokevirtual 96, 3) := by decide +kernel
theorem dX4_rough_19 : decode cX4_rough 19 = .ok (.aload_n 0, 1) := by decide +kernel
theorem dX4_rough_20 : decode cX4_rough 20 = .ok (.getfield 21, 3) := by decide +kernel
theorem dX4_rough_23 : decode cX4_rough 23 = .ok (.aload_n 0, 1) := by decide +kernel
theorem dX4_rough_24 : decode cX4_rough 24 = .ok (.getfield 48, 3) := by decide +kernel
theorem dX4_rough_27 : decode cX4_rough 27 = .ok (.iconst 0, 1) := by decide +kernel
theorem dX4_rough_28 : decode cX4_rough 28 = .ok (.iaload, 1) := by decide +kernel
theorem dX4_rough_29 : decode cX4_rough 29 = .ok (.invokevirtual 119, 3) := by decide +kernel
theorem dX4_rough_32 : decode cX4_rough 32 = .ok (.ireturn, 1) := by decide +kernel
theorem dX4_least_0 : decode cX4_least 0 = .ok (.aload_n 0, 1) := by decide +kernel
theorem dX4_least_1 : decode cX4_least 1 = .ok (.iload_n 1, 1) := by decide +kernel
theorem dX4_least_2 : decode cX4_least 2 = .ok (.iload_n 2, 1) := by decide +kernel
theorem dX4_least_3 : decode cX4_least 3 = .ok (.invokevirtual 93, 3) := by decide +kernel
theorem dX4_least_6 : decode cX4_least 6 = .ok (.istore 4, 2) := by decide +kernel
theorem dX4_least_8 : decode cX4_least 8 = .ok (.iload 4, 2) := by decide +kernel
theorem dX4_least_10 : decode cX4_least 10 = .ok (.ifCond .eq 6, 3) := by decide +kernel
theorem dX4_least_13 : decode cX4_least 13 = .ok (.iload 4, 2) := by decide +kernel
theorem dX4_least_15 : decode cX4_least 15 = .ok (.ireturn, 1) := by decide +kernel
theorem dX4_least_16 : decode cX4_least 16 = .ok (.iload_n 3, 1) := by decide +kernel
theorem dX4_least_17 : decode cX4_least 17 = .ok (.iconst (-1), 1) := by decide +kernel
theorem dX4_least_18 : decode cX4_least 18 = .ok (.aload_n 0, 1) := by decide +kernel
theorem dX4_least_19 : decode cX4_least 19 = .ok (.getfield 14, 3) := by decide +kernel
theorem dX4_least_22 : decode cX4_least 22 = .ok (.iload_n 1, 1) := by decide +kernel
theorem dX4_least_23 : decode cX4_least 23 = .ok (.invokevirtual 122, 3) := by decide +kernel
theorem dX4_least_26 : decode cX4_least 26 = .ok (.iconst 1, 1) := by decide +kernel
theorem dX4_least_27 : decode cX4_least 27 = .ok (.isub, 1) := by decide +kernel
theorem dX4_least_28 : decode cX4_least 28 = .ok (.invokestatic 61, 3) := by decide +kernel
theorem dX4_least_31 : decode cX4_least 31 = .ok (.ifCond .eq 6, 3) := by decide +kernel
theorem dX4_least_34 : decode cX4_least 34 = .ok (.bipush (-2), 2) := by decide +kernel
theorem dX4_least_36 : decode cX4_least 36 = .ok (.ireturn, 1) := by decide +kernel
theorem dX4_least_37 : decode cX4_least 37 = .ok (.aload_n 0, 1) := by decide +kernel
theorem dX4_least_38 : decode cX4_least 38 = .ok (.iload_n 1, 1) := by decide +kernel
theorem dX4_least_39 : decode cX4_least 39 = .ok (.iload_n 2, 1) := by decide +kernel
theorem dX4_least_40 : decode cX4_least 40 = .ok (.invokevirtual 125, 3) := by decide +kernel
theorem dX4_least_43 : decode cX4_least 43 = .ok (.istore 5, 2) := by decide +kernel
theorem dX4_least_45 : decode cX4_least 45 = .ok (.iload 5, 2) := by decide +kernel
theorem dX4_least_47 : decode cX4_least 47 = .ok (.bipush (-9), 2) := by decide +kernel
theorem dX4_least_49 : decode cX4_least 49 = .ok (.if_icmp .eq 7, 3) := by decide +kernel
theorem dX4_least_52 : decode cX4_least 52 = .ok (.iload_n 3, 1) := by decide +kernel
theorem dX4_least_53 : decode cX4_least 53 = .ok (.ifCond .ge 8, 3) := by decide +kernel
theorem dX4_least_56 : decode cX4_least 56 = .ok (.iload 5, 2) := by decide +kernel
theorem dX4_least_58 : decode cX4_least 58 = .ok (.goto 11, 3) := by decide +kernel
theorem dX4_least_61 : decode cX4_least 61 = .ok (.aload_n 0, 1) := by decide +kernel
theorem dX4_least_62 : decode cX4_least 62 = .ok (.getfield 28, 3) := by decide +kernel
theorem dX4_least_65 : decode cX4_least 65 = .ok (.iload_n 3, 1) := by decide +kernel
theorem dX4_least_66 : decode cX4_least 66 = .ok (.invokevirtual 128, 3) := by decide +kernel
theorem dX4_least_69 : decode cX4_least 69 = .ok (.ireturn, 1) := by decide +kernel
theorem dX4_fair_0 : decode cX4_fair 0 = .ok (.aload_n 0, 1) := by decide +kernel
theorem dX4_fair_1 : decode cX4_fair 1 = .ok (.iload_n 1, 1) := by decide +kernel
theorem dX4_fair_2 : decode cX4_fair 2 = .ok (.iload_n 2, 1) := by decide +kernel
theorem dX4_fair_3 : decode cX4_fair 3 = .ok (.invokevirtual 93, 3) := by decide +kernel
theorem dX4_fair_6 : decode cX4_fair 6 = .ok (.istore_n 3, 1) := by decide +kernel
theorem dX4_fair_7 : decode cX4_fair 7 = .ok (.iload_n 3, 1) := by decide +kernel
theorem dX4_fair_8 : decode cX4_fair 8 = .ok (.ifCond .eq 5, 3) := by decide +kernel
theorem dX4_fair_11 : decode cX4_fair 11 = .ok (.iload_n 3, 1) := by decide +kernel
theorem dX4_fair_12 : decode cX4_fair 12 = .ok (.ireturn, 1) := by decide +kernel
theorem dX4_fair_13 : decode cX4_fair 13 = .ok (.aload_n 0, 1) := by decide +kernel
theorem dX4_fair_14 : decode cX4_fair 14 = .ok (.iload_n 1, 1) := by decide +kernel
theorem dX4_fair_15 : decode cX4_fair 15 = .ok (.iload_n 2, 1) := by decide +kernel
theorem dX4_fair_16 : decode cX4_fair 16 = .ok (.invokevirtual 125, 3) := by decide +kernel
theorem dX4_fair_19 : decode cX4_fair 19 = .ok (.istore 4, 2) := by decide +kernel
theorem dX4_fair_21 : decode cX4_fair 21 = .ok (.iload 4, 2) := by decide +kernel
theorem dX4_fair_23 : decode cX4_fair 23 = .ok (.bipush (-9), 2) := by decide +kernel
theorem dX4_fair_25 : decode cX4_fair 25 = .ok (.if_icmp .ne 6, 3) := by decide +kernel
theorem dX4_fair_28 : decode cX4_fair 28 = .ok (.bipush (-3), 2) := by decide +kernel
theorem dX4_fair_30 : decode cX4_fair 30 = .ok (.ireturn, 1) := by decide +kernel
theorem dX4_fair_31 : decode cX4_fair 31 = .ok (.aload_n 0, 1) := by decide +kernel
theorem dX4_fair_32 : decode cX4_fair 32 = .ok (.iload_n 1, 1) := by decide +kernel
theorem dX4_fair_33 : decode cX4_fair 33 = .ok (.iload_n 2, 1) := by decide +kernel
theorem dX4_fair_34 : decode cX4_fair 34 = .ok (.invokevirtual 131, 3) := by decide +kernel
theorem dX4_fair_37 : decode cX4_fair 37 = .ok (.iload 4, 2) := by decide +kernel
theorem dX4_fair_39 : decode cX4_fair 39 = .ok (.ireturn, 1) := by decide +kernel
theorem dX4_rounds_0 : decode cX4_rounds 0 = .ok (.iload_n 1, 1) := by decide +kernel
theorem dX4_rounds_1 : decode cX4_rounds 1 = .ok (.iconst 1, 1) := by decide +kernel
theorem dX4_rounds_2 : decode cX4_rounds 2 = .ok (.bipush 20, 2) := by decide +kernel
theorem dX4_rounds_4 : decode cX4_rounds 4 = .ok (.invokestatic 61, 3) := by decide +kernel
theorem dX4_rounds_7 : decode cX4_rounds 7 = .ok (.ifCond .eq 6, 3) := by decide +kernel
theorem dX4_rounds_10 : decode cX4_rounds 10 = .ok (.bipush (-2), 2) := by decide +kernel
theorem dX4_rounds_12 : decode cX4_rounds 12 = .ok (.ireturn, 1) := by decide +kernel
theorem dX4_rounds_13 : decode cX4_rounds 13 = .ok (.iconst 1, 1) := by decide +kernel
theorem dX4_rounds_14 : decode cX4_rounds 14 = .ok (.istore_n 2, 1) := by decide +kernel
theorem dX4_rounds_15 : decode cX4_rounds 15 = .ok (.iload_n 2, 1) := by decide +kernel
theorem dX4_rounds_16 : decode cX4_rounds 16 = .ok (.iload_n 1, 1) := by decide +kernel
theorem dX4_rounds_17 : decode cX4_rounds 17 = .ok (.if_icmp .ge 18, 3) := by decide +kernel
theorem dX4_rounds_20 : decode cX4_rounds 20 = .ok (.aload_n 0, 1) := by decide +kernel
theorem dX4_rounds_21 : decode cX4_rounds 21 = .ok (.invokevirtual 134, 3) := by decide +kernel
theorem dX4_rounds_24 : decode cX4_rounds 24 = .ok (.ifCond .ne 5, 3) := by decide +kernel
theorem dX4_rounds_27 : decode cX4_rounds 27 = .ok (.iload_n 2, 1) := by decide +kernel
theorem dX4_rounds_28 : decode cX4_rounds 28 = .ok (.ireturn, 1) := by decide +kernel
theorem dX4_rounds_29 : decode cX4_rounds 29 = .ok (.iinc 2 1, 3) := by decide +kernel
theorem dX4_rounds_32 : decode cX4_rounds 32 = .ok (.goto (-17), 3) := by decide +kernel
theorem dX4_rounds_35 : decode cX4_rounds 35 = .ok (.aload_n 0, 1) := by decide +kernel
theorem dX4_rounds_36 : decode cX4_rounds 36 = .ok (.invokevirtual 134, 3) := by decide +kernel
theorem dX4_rounds_39 : decode cX4_rounds 39 = .ok (.pop, 1) := by decide +kernel
theorem dX4_rounds_40 : decode cX4_rounds 40 = .ok (.iload_n 1, 1) := by decide +kernel
theorem dX4_rounds_41 : decode cX4_rounds 41 = .ok (.ireturn, 1) := by decide +kernel
theorem dX4_back_0 : decode cX4_back 0 = .ok (.iconst 0, 1) := by decide +kernel
theorem dX4_back_1 : decode cX4_back 1 = .ok (.istore_n 1, 1) := by decide +kernel
theorem dX4_back_2 : decode cX4_back 2 = .ok (.iconst 0, 1) := by decide +kernel
theorem dX4_back_3 : decode cX4_back 3 = .ok (.istore_n 2, 1) := by decide +kernel
theorem dX4_back_4 : decode cX4_back 4 = .ok (.iload_n 2, 1) := by decide +kernel
theorem dX4_back_5 : decode cX4_back 5 = .ok (.bipush 63, 2) := by decide +kernel
theorem dX4_back_7 : decode cX4_back 7 = .ok (.if_icmp .ge 41, 3) := by decide +kernel
theorem dX4_back_10 : decode cX4_back 10 = .ok (.aload_n 0, 1) := by decide +kernel
theorem dX4_back_11 : decode cX4_back 11 = .ok (.getfield 14, 3) := by decide +kernel
theorem dX4_back_14 : decode cX4_back 14 = .ok (.iload_n 2, 1) := by decide +kernel
theorem dX4_back_15 : decode cX4_back 15 = .ok (.invokevirtual 89, 3) := by decide +kernel
theorem dX4_back_18 : decode cX4_back 18 = .ok (.ifCond .eq 24, 3) := by decide +kernel
theorem dX4_back_21 : decode cX4_back 21 = .ok (.aload_n 0, 1) := by decide +kernel
theorem dX4_back_22 : decode cX4_back 22 = .ok (.getfield 14, 3) := by decide +kernel
theorem dX4_back_25 : decode cX4_back 25 = .ok (.getfield 86, 3) := by decide +kernel
theorem dX4_back_28 : decode cX4_back 28 = .ok (.iload_n 2, 1) := by decide +kernel
theorem dX4_back_29 : decode cX4_back 29 = .ok (.aload_n 0, 1) := by decide +kernel
theorem dX4_back_30 : decode cX4_back 30 = .ok (.getfield 14, 3) := by decide +kernel
theorem dX4_back_33 : decode cX4_back 33 = .ok (.getfield 138, 3) := by decide +kernel
theorem dX4_back_36 : decode cX4_back 36 = .ok (.iload_n 2, 1) := by decide +kernel
theorem dX4_back_37 : decode cX4_back 37 = .ok (.iaload, 1) := by decide +kernel
theorem dX4_back_38 : decode cX4_back 38 = .ok (.iastore, 1) := by decide +kernel
theorem dX4_back_39 : decode cX4_back 39 = .ok (.iinc 1 1, 3) := by decide +kernel
theorem dX4_back_42 : decode cX4_back 42 = .ok (.iinc 2 1, 3) := by decide +kernel
theorem dX4_back_45 : decode cX4_back 45 = .ok (.goto (-41), 3) := by decide +kernel
theorem dX4_back_48 : decode cX4_back 48 = .ok (.iload_n 1, 1) := by decide +kernel
theorem dX4_back_49 : decode cX4_back 49 = .ok (.ireturn, 1) := by decide +kernel
theorem dX4_area_0 : decode cX4_area 0 = .ok (.aload_n 0, 1) := by decide +kernel
theorem dX4_area_1 : decode cX4_area 1 = .ok (.iload_n 1, 1) := by decide +kernel
theorem dX4_area_2 : decode cX4_area 2 = .ok (.iload_n 2, 1) := by decide +kernel
theorem dX4_area_3 : decode cX4_area 3 = .ok (.invokevirtual 93, 3) := by decide +kernel
theorem dX4_area_6 : decode cX4_area 6 = .ok (.ifCond .ne 12, 3) := by decide +kernel
theorem dX4_area_9 : decode cX4_area 9 = .ok (.iload_n 3, 1) := by decide +kernel
theorem dX4_area_10 : decode cX4_area 10 = .ok (.iconst 0, 1) := by decide +kernel
theorem dX4_area_11 : decode cX4_area 11 = .ok (.iconst 1, 1) := by decide +kernel
theorem dX4_area_12 : decode cX4_area 12 = .ok (.invokestatic 61, 3) := by decide +kernel
theorem dX4_area_15 : decode cX4_area 15 = .ok (.ifCond .eq 7, 3) := by decide +kernel
theorem dX4_area_18 : decode cX4_area 18 = .ok (.ldc2_w 141, 3) := by decide +kernel
theorem dX4_area_21 : decode cX4_area 21 = .ok (.lreturn, 1) := by decide +kernel
theorem dX4_area_22 : decode cX4_area 22 = .ok (.aload_n 0, 1) := by decide +kernel
theorem dX4_area_23 : decode cX4_area 23 = .ok (.iload_n 1, 1) := by decide +kernel
theorem dX4_area_24 : decode cX4_area 24 = .ok (.iload_n 2, 1) := by decide +kernel
theorem dX4_area_25 : decode cX4_area 25 = .ok (.invokevirtual 143, 3) := by decide +kernel
theorem dX4_area_28 : decode cX4_area 28 = .ok (.i2l, 1) := by decide +kernel
theorem dX4_area_29 : decode cX4_area 29 = .ok (.ldc2_w 146, 3) := by decide +kernel
theorem dX4_area_32 : decode cX4_area 32 = .ok (.iload_n 3, 1) := by decide +kernel
theorem dX4_area_33 : decode cX4_area 33 = .ok (.invokestatic 148, 3) := by decide +kernel
theorem dX4_area_36 : decode cX4_area 36 = .ok (.lreturn, 1) := by decide +kernel
theorem dX4_centre_0 : decode cX4_centre 0 = .ok (.aload_n 0, 1) := by decide +kernel
theorem dX4_centre_1 : decode cX4_centre 1 = .ok (.iload_n 1, 1) := by decide +kernel
theorem dX4_centre_2 : decode cX4_centre 2 = .ok (.iload_n 2, 1) := by decide +kernel
theorem dX4_centre_3 : decode cX4_centre 3 = .ok (.invokevirtual 93, 3) := by decide +kernel
theorem dX4_centre_6 : decode cX4_centre 6 = .ok (.ifCond .ne 12, 3) := by decide +kernel
theorem dX4_centre_9 : decode cX4_centre 9 = .ok (.iload_n 3, 1) := by decide +kernel
theorem dX4_centre_10 : decode cX4_centre 10 = .ok (.iconst 0, 1) := by decide +kernel
theorem dX4_centre_11 : decode cX4_centre 11 = .ok (.iconst 1, 1) := by decide +kernel
theorem dX4_centre_12 : decode cX4_centre 12 = .ok (.invokestatic 61, 3) := by decide +kernel
theorem dX4_centre_15 : decode cX4_centre 15 = .ok (.ifCond .eq 7, 3) := by decide +kernel
theorem dX4_centre_18 : decode cX4_centre 18 = .ok (.ldc2_w 141, 3) := by decide +kernel
theorem dX4_centre_21 : decode cX4_centre 21 = .ok (.lreturn, 1) := by decide +kernel
theorem dX4_centre_22 : decode cX4_centre 22 = .ok (.aload_n 0, 1) := by decide +kernel
theorem dX4_centre_23 : decode cX4_centre 23 = .ok (.iload_n 1, 1) := by decide +kernel
theorem dX4_centre_24 : decode cX4_centre 24 = .ok (.iload_n 2, 1) := by decide +kernel
theorem dX4_centre_25 : decode cX4_centre 25 = .ok (.invokevirtual 96, 3) := by decide +kernel
theorem dX4_centre_28 : decode cX4_centre 28 = .ok (.aload_n 0, 1) := by decide +kernel
theorem dX4_centre_29 : decode cX4_centre 29 = .ok (.getfield 21, 3) := by decide +kernel
theorem dX4_centre_32 : decode cX4_centre 32 = .ok (.getfield 152, 3) := by decide +kernel
theorem dX4_centre_35 : decode cX4_centre 35 = .ok (.aload_n 0, 1) := by decide +kernel
theorem dX4_centre_36 : decode cX4_centre 36 = .ok (.getfield 21, 3) := by decide +kernel
theorem dX4_centre_39 : decode cX4_centre 39 = .ok (.getfield 99, 3) := by decide +kernel
theorem dX4_centre_42 : decode cX4_centre 42 = .ok (.invokestatic 153, 3) := by decide +kernel
theorem dX4_centre_45 : decode cX4_centre 45 = .ok (.istore 4, 2) := by decide +kernel
theorem dX4_centre_47 : decode cX4_centre 47 = .ok (.iload 4, 2) := by decide +kernel
theorem dX4_centre_49 : decode cX4_centre 49 = .ok (.ifCond .ne 7, 3) := by decide +kernel
theorem dX4_centre_52 : decode cX4_centre 52 = .ok (.ldc2_w 141, 3) := by decide +kernel
theorem dX4_centre_55 : decode cX4_centre 55 = .ok (.lreturn, 1) := by decide +kernel
theorem dX4_centre_56 : decode cX4_centre 56 = .ok (.iconst 0, 1) := by decide +kernel
theorem dX4_centre_57 : decode cX4_centre 57 = .ok (.istore 5, 2) := by decide +kernel
theorem dX4_centre_59 : decode cX4_centre 59 = .ok (.iload 5, 2) := by decide +kernel
theorem dX4_centre_61 : decode cX4_centre 61 = .ok (.aload_n 0, 1) := by decide +kernel
theorem dX4_centre_62 : decode cX4_centre 62 = .ok (.getfield 21, 3) := by decide +kernel
theorem dX4_centre_65 : decode cX4_centre 65 = .ok (.getfield 99, 3) := by decide +kernel
theorem dX4_centre_68 : decode cX4_centre 68 = .ok (.if_icmp .ge 29, 3) := by decide +kernel
theorem dX4_centre_71 : decode cX4_centre 71 = .ok (.aload_n 0, 1) := by decide +kernel
theorem dX4_centre_72 : decode cX4_centre 72 = .ok (.getfield 54, 3) := by decide +kernel
theorem dX4_centre_75 : decode cX4_centre 75 = .ok (.iload 5, 2) := by decide +kernel
theorem dX4_centre_77 : decode cX4_centre 77 = .ok (.aload_n 0, 1) := by decide +kernel
theorem dX4_centre_78 : decode cX4_centre 78 = .ok (.getfield 21, 3) := by decide +kernel
theorem dX4_centre_81 : decode cX4_centre 81 = .ok (.getfield 152, 3) := by decide +kernel
theorem dX4_centre_84 : decode cX4_centre 84 = .ok (.iload 5, 2) := by decide +kernel
theorem dX4_centre_86 : decode cX4_centre 86 = .ok (.iaload, 1) := by decide +kernel
theorem dX4_centre_87 : decode cX4_centre 87 = .ok (.iload 5, 2) := by decide +kernel
theorem dX4_centre_89 : decode cX4_centre 89 = .ok (.imul, 1) := by decide +kernel
theorem dX4_centre_90 : decode cX4_centre 90 = .ok (.iastore, 1) := by decide +kernel
theorem dX4_centre_91 : decode cX4_centre 91 = .ok (.iinc 5 1, 3) := by decide +kernel
theorem dX4_centre_94 : decode cX4_centre 94 = .ok (.goto (-35), 3) := by decide +kernel
theorem dX4_centre_97 : decode cX4_centre 97 = .ok (.aload_n 0, 1) := by decide +kernel
theorem dX4_centre_98 : decode cX4_centre 98 = .ok (.getfield 54, 3) := by decide +kernel
theorem dX4_centre_101 : decode cX4_centre 101 = .ok (.aload_n 0, 1) := by decide +kernel
theorem dX4_centre_102 : decode cX4_centre 102 = .ok (.getfield 21, 3) := by decide +kernel
theorem dX4_centre_105 : decode cX4_centre 105 = .ok (.getfield 99, 3) := by decide +kernel
theorem dX4_centre_108 : decode cX4_centre 108 = .ok (.invokestatic 153, 3) := by decide +kernel
theorem dX4_centre_111 : decode cX4_centre 111 = .ok (.i2l, 1) := by decide +kernel
theorem dX4_centre_112 : decode cX4_centre 112 = .ok (.iload 4, 2) := by decide +kernel
theorem dX4_centre_114 : decode cX4_centre 114 = .ok (.i2l, 1) := by decide +kernel
theorem dX4_centre_115 : decode cX4_centre 115 = .ok (.iload_n 3, 1) := by decide +kernel
theorem dX4_centre_116 : decode cX4_centre 116 = .ok (.invokestatic 148, 3) := by decide +kernel
theorem dX4_centre_119 : decode cX4_centre 119 = .ok (.lreturn, 1) := by decide +kernel
theorem dX4_volume_0 : decode cX4_volume 0 = .ok (.iload_n 1, 1) := by decide +kernel
theorem dX4_volume_1 : decode cX4_volume 1 = .ok (.iconst 0, 1) := by decide +kernel
theorem dX4_volume_2 : decode cX4_volume 2 = .ok (.iconst 1, 1) := by decide +kernel
theorem dX4_volume_3 : decode cX4_volume 3 = .ok (.invokestatic 61, 3) := by decide +kernel
theorem dX4_volume_6 : decode cX4_volume 6 = .ok (.ifCond .ne 12, 3) := by decide +kernel
theorem dX4_volume_9 : decode cX4_volume 9 = .ok (.iload_n 2, 1) := by decide +kernel
theorem dX4_volume_10 : decode cX4_volume 10 = .ok (.iconst 0, 1) := by decide +kernel
theorem dX4_volume_11 : decode cX4_volume 11 = .ok (.iconst 1, 1) := by decide +kernel
theorem dX4_volume_12 : decode cX4_volume 12 = .ok (.invokestatic 61, 3) := by decide +kernel
theorem dX4_volume_15 : decode cX4_volume 15 = .ok (.ifCond .eq 7, 3) := by decide +kernel
theorem dX4_volume_18 : decode cX4_volume 18 = .ok (.ldc2_w 141, 3) := by decide +kernel
theorem dX4_volume_21 : decode cX4_volume 21 = .ok (.lreturn, 1) := by decide +kernel
theorem dX4_volume_22 : decode cX4_volume 22 = .ok (.aload_n 0, 1) := by decide +kernel
theorem dX4_volume_23 : decode cX4_volume 23 = .ok (.getfield 14, 3) := by decide +kernel
theorem dX4_volume_26 : decode cX4_volume 26 = .ok (.iload_n 1, 1) := by decide +kernel
theorem dX4_volume_27 : decode cX4_volume 27 = .ok (.invokevirtual 109, 3) := by decide +kernel
theorem dX4_volume_30 : decode cX4_volume 30 = .ok (.istore_n 3, 1) := by decide +kernel
theorem dX4_volume_31 : decode cX4_volume 31 = .ok (.iconst 0, 1) := by decide +kernel
theorem dX4_volume_32 : decode cX4_volume 32 = .ok (.istore 4, 2) := by decide +kernel
theorem dX4_volume_34 : decode cX4_volume 34 = .ok (.iload 4, 2) := by decide +kernel
theorem dX4_volume_36 : decode cX4_volume 36 = .ok (.iload_n 3, 1) := by decide +kernel
theorem dX4_volume_37 : decode cX4_volume 37 = .ok (.if_icmp .ge 23, 3) := by decide +kernel
theorem dX4_volume_40 : decode cX4_volume 40 = .ok (.aload_n 0, 1) := by decide +kernel
theorem dX4_volume_41 : decode cX4_volume 41 = .ok (.getfield 54, 3) := by decide +kernel
theorem dX4_volume_44 : decode cX4_volume 44 = .ok (.iload 4, 2) := by decide +kernel
theorem dX4_volume_46 : decode cX4_volume 46 = .ok (.aload_n 0, 1) := by decide +kernel
theorem dX4_volume_47 : decode cX4_volume 47 = .ok (.iload_n 1, 1) := by decide +kernel
theorem dX4_volume_48 : decode cX4_volume 48 = .ok (.iload 4, 2) := by decide +kernel
theorem dX4_volume_50 : decode cX4_volume 50 = .ok (.invokevirtual 143, 3) := by decide +kernel
theorem dX4_volume_53 : decode cX4_volume 53 = .ok (.iastore, 1) := by decide +kernel
theorem dX4_volume_54 : decode cX4_volume 54 = .ok (.iinc 4 1, 3) := by decide +kernel
theorem dX4_volume_57 : decode cX4_volume 57 = .ok (.goto (-23), 3) := by decide +kernel
theorem dX4_volume_60 : decode cX4_volume 60 = .ok (.iload_n 1, 1) := by decide +kernel
theorem dX4_volume_61 : decode cX4_volume 61 = .ok (.ifCond .ne 13, 3) := by decide +kernel
theorem dX4_volume_64 : decode cX4_volume 64 = .ok (.aload_n 0, 1) := by decide +kernel
theorem dX4_volume_65 : decode cX4_volume 65 = .ok (.getfield 48, 3) := by decide +kernel
theorem dX4_volume_68 : decode cX4_volume 68 = .ok (.iconst 3, 1) := by decide +kernel
theorem dX4_volume_69 : decode cX4_volume 69 = .ok (.iaload, 1) := by decide +kernel
theorem dX4_volume_70 : decode cX4_volume 70 = .ok (.i2l, 1) := by decide +kernel
theorem dX4_volume_71 : decode cX4_volume 71 = .ok (.goto 10, 3) := by decide +kernel
theorem dX4_volume_74 : decode cX4_volume 74 = .ok (.aload_n 0, 1) := by decide +kernel
theorem dX4_volume_75 : decode cX4_volume 75 = .ok (.getfield 48, 3) := by decide +kernel
theorem dX4_volume_78 : decode cX4_volume 78 = .ok (.iconst 2, 1) := by decide +kernel
theorem dX4_volume_79 : decode cX4_volume 79 = .ok (.iaload, 1) := by decide +kernel
theorem dX4_volume_80 : decode cX4_volume 80 = .ok (.i2l, 1) := by decide +kernel
theorem dX4_volume_81 : decode cX4_volume 81 = .ok (.lstore 4, 2) := by decide +kernel
theorem dX4_volume_83 : decode cX4_volume 83 = .ok (.aload_n 0, 1) := by decide +kernel
theorem dX4_volume_84 : decode cX4_volume 84 = .ok (.getfield 54, 3) := by decide +kernel
theorem dX4_volume_87 : decode cX4_volume 87 = .ok (.iload_n 3, 1) := by decide +kernel
theorem dX4_volume_88 : decode cX4_volume 88 = .ok (.invokestatic 153, 3) := by decide +kernel
theorem dX4_volume_91 : decode cX4_volume 91 = .ok (.i2l, 1) := by decide +kernel
theorem dX4_volume_92 : decode cX4_volume 92 = .ok (.lload 4, 2) := by decide +kernel
theorem dX4_volume_94 : decode cX4_volume 94 = .ok (.lmul, 1) := by decide +kernel
theorem dX4_volume_95 : decode cX4_volume 95 = .ok (.ldc2_w 157, 3) := by decide +kernel
theorem dX4_volume_98 : decode cX4_volume 98 = .ok (.iload_n 2, 1) := by decide +kernel
theorem dX4_volume_99 : decode cX4_volume 99 = .ok (.invokestatic 148, 3) := by decide +kernel
theorem dX4_volume_102 : decode cX4_volume 102 = .ok (.lreturn, 1) := by decide +kernel
theorem dX4_height_0 : decode cX4_height 0 = .ok (.iload_n 1, 1) := by decide +kernel
theorem dX4_height_1 : decode cX4_height 1 = .ok (.iconst 0, 1) := by decide +kernel
theorem dX4_height_2 : decode cX4_height 2 = .ok (.aload_n 0, 1) := by decide +kernel
theorem dX4_height_3 : decode cX4_height 3 = .ok (.getfield 14, 3) := by decide +kernel
theorem dX4_height_6 : decode cX4_height 6 = .ok (.getfield 159, 3) := by decide +kernel
theorem dX4_height_9 : decode cX4_height 9 = .ok (.iconst 1, 1) := by decide +kernel
theorem dX4_height_10 : decode cX4_height 10 = .ok (.isub, 1) := by decide +kernel
theorem dX4_height_11 : decode cX4_height 11 = .ok (.invokestatic 61, 3) := by decide +kernel
theorem dX4_height_14 : decode cX4_height 14 = .ok (.ifCond .ne 23, 3) := by decide +kernel
theorem dX4_height_17 : decode cX4_height 17 = .ok (.iload_n 2, 1) := by decide +kernel
theorem dX4_height_18 : decode cX4_height 18 = .ok (.iconst 1, 1) := by decide +kernel
theorem dX4_height_19 : decode cX4_height 19 = .ok (.sipush 999, 3) := by decide +kernel
theorem dX4_height_22 : decode cX4_height 22 = .ok (.invokestatic 61, 3) := by decide +kernel
theorem dX4_height_25 : decode cX4_height 25 = .ok (.ifCond .ne 12, 3) := by decide +kernel
theorem dX4_height_28 : decode cX4_height 28 = .ok (.iload_n 3, 1) := by decide +kernel
theorem dX4_height_29 : decode cX4_height 29 = .ok (.iconst 0, 1) := by decide +kernel
theorem dX4_height_30 : decode cX4_height 30 = .ok (.iconst 1, 1) := by decide +kernel
theorem dX4_height_31 : decode cX4_height 31 = .ok (.invokestatic 61, 3) := by decide +kernel
theorem dX4_height_34 : decode cX4_height 34 = .ok (.ifCond .eq 7, 3) := by decide +kernel
theorem dX4_height_37 : decode cX4_height 37 = .ok (.ldc2_w 141, 3) := by decide +kernel
theorem dX4_height_40 : decode cX4_height 40 = .ok (.lreturn, 1) := by decide +kernel
theorem dX4_height_41 : decode cX4_height 41 = .ok (.aload_n 0, 1) := by decide +kernel
theorem dX4_height_42 : decode cX4_height 42 = .ok (.getfield 35, 3) := by decide +kernel
theorem dX4_height_45 : decode cX4_height 45 = .ok (.aload_n 0, 1) := by decide +kernel
theorem dX4_height_46 : decode cX4_height 46 = .ok (.getfield 14, 3) := by decide +kernel
theorem dX4_height_49 : decode cX4_height 49 = .ok (.iload_n 1, 1) := by decide +kernel
theorem dX4_height_50 : decode cX4_height 50 = .ok (.iload_n 2, 1) := by decide +kernel
theorem dX4_height_51 : decode cX4_height 51 = .ok (.invokevirtual 162, 3) := by decide +kernel
theorem dX4_height_54 : decode cX4_height 54 = .ok (.aload_n 0, 1) := by decide +kernel
theorem dX4_height_55 : decode cX4_height 55 = .ok (.getfield 35, 3) := by decide +kernel
theorem dX4_height_58 : decode cX4_height 58 = .ok (.iload_n 1, 1) := by decide +kernel
theorem dX4_height_59 : decode cX4_height 59 = .ok (.invokevirtual 166, 3) := by decide +kernel
theorem dX4_height_62 : decode cX4_height 62 = .ok (.ifCond .ne 7, 3) := by decide +kernel
theorem dX4_height_65 : decode cX4_height 65 = .ok (.ldc2_w 141, 3) := by decide +kernel
theorem dX4_height_68 : decode cX4_height 68 = .ok (.lreturn, 1) := by decide +kernel
theorem dX4_height_69 : decode cX4_height 69 = .ok (.aload_n 0, 1) := by decide +kernel
theorem dX4_height_70 : decode cX4_height 70 = .ok (.getfield 35, 3) := by decide +kernel
theorem dX4_height_73 : decode cX4_height 73 = .ok (.getfield 170, 3) := by decide +kernel
theorem dX4_height_76 : decode cX4_height 76 = .ok (.iload_n 1, 1) := by decide +kernel
theorem dX4_height_77 : decode cX4_height 77 = .ok (.laload, 1) := by decide +kernel
theorem dX4_height_78 : decode cX4_height 78 = .ok (.aload_n 0, 1) := by decide +kernel
theorem dX4_height_79 : decode cX4_height 79 = .ok (.getfield 35, 3) := by decide +kernel
theorem dX4_height_82 : decode cX4_height 82 = .ok (.getfield 174, 3) := by decide +kernel
theorem dX4_height_85 : decode cX4_height 85 = .ok (.iload_n 1, 1) := by decide +kernel
theorem dX4_height_86 : decode cX4_height 86 = .ok (.laload, 1) := by decide +kernel
theorem dX4_height_87 : decode cX4_height 87 = .ok (.iload_n 3, 1) := by decide +kernel
theorem dX4_height_88 : decode cX4_height 88 = .ok (.invokestatic 148, 3) := by decide +kernel
theorem dX4_height_91 : decode cX4_height 91 = .ok (.lreturn, 1) := by decide +kernel
theorem dX4_breaks_0 : decode cX4_breaks 0 = .ok (.iload_n 1, 1) := by decide +kernel
theorem dX4_breaks_1 : decode cX4_breaks 1 = .ok (.iconst 1, 1) := by decide +kernel
theorem dX4_breaks_2 : decode cX4_breaks 2 = .ok (.sipush 999, 3) := by decide +kernel
theorem dX4_breaks_5 : decode cX4_breaks 5 = .ok (.invokestatic 61, 3) := by decide +kernel
theorem dX4_breaks_8 : decode cX4_breaks 8 = .ok (.ifCond .eq 8, 3) := by decide +kernel
theorem dX4_breaks_11 : decode cX4_breaks 11 = .ok (.bipush (-2), 2) := by decide +kernel
theorem dX4_breaks_13 : decode cX4_breaks 13 = .ok (.goto 21, 3) := by decide +kernel
theorem dX4_breaks_16 : decode cX4_breaks 16 = .ok (.aload_n 0, 1) := by decide +kernel
theorem dX4_breaks_17 : decode cX4_breaks 17 = .ok (.getfield 35, 3) := by decide +kernel
theorem dX4_breaks_20 : decode cX4_breaks 20 = .ok (.aload_n 0, 1) := by decide +kernel
theorem dX4_breaks_21 : decode cX4_breaks 21 = .ok (.getfield 14, 3) := by decide +kernel
theorem dX4_breaks_24 : decode cX4_breaks 24 = .ok (.iload_n 1, 1) := by decide +kernel
theorem dX4_breaks_25 : decode cX4_breaks 25 = .ok (.aload_n 0, 1) := by decide +kernel
theorem dX4_breaks_26 : decode cX4_breaks 26 = .ok (.getfield 48, 3) := by decide +kernel
theorem dX4_breaks_29 : decode cX4_breaks 29 = .ok (.iconst 0, 1) := by decide +kernel
theorem dX4_breaks_30 : decode cX4_breaks 30 = .ok (.iaload, 1) := by decide +kernel
theorem dX4_breaks_31 : decode cX4_breaks 31 = .ok (.invokevirtual 177, 3) := by decide +kernel
theorem dX4_breaks_34 : decode cX4_breaks 34 = .ok (.ireturn, 1) := by decide +kernel
theorem dX4_worst_0 : decode cX4_worst 0 = .ok (.aload_n 0, 1) := by decide +kernel
theorem dX4_worst_1 : decode cX4_worst 1 = .ok (.getfield 14, 3) := by decide +kernel
theorem dX4_worst_4 : decode cX4_worst 4 = .ok (.invokevirtual 181, 3) := by decide +kernel
theorem dX4_worst_7 : decode cX4_worst 7 = .ok (.istore_n 1, 1) := by decide +kernel
theorem dX4_worst_8 : decode cX4_worst 8 = .ok (.iconst 0, 1) := by decide +kernel
theorem dX4_worst_9 : decode cX4_worst 9 = .ok (.istore_n 2, 1) := by decide +kernel
theorem dX4_worst_10 : decode cX4_worst 10 = .ok (.iconst 1, 1) := by decide +kernel
theorem dX4_worst_11 : decode cX4_worst 11 = .ok (.istore_n 3, 1) := by decide +kernel
theorem dX4_worst_12 : decode cX4_worst 12 = .ok (.iconst 1, 1) := by decide +kernel
theorem dX4_worst_13 : decode cX4_worst 13 = .ok (.istore 4, 2) := by decide +kernel
theorem dX4_worst_15 : decode cX4_worst 15 = .ok (.iload 4, 2) := by decide +kernel
theorem dX4_worst_17 : decode cX4_worst 17 = .ok (.iload_n 1, 1) := by decide +kernel
theorem dX4_worst_18 : decode cX4_worst 18 = .ok (.if_icmp .gt 42, 3) := by decide +kernel
theorem dX4_worst_21 : decode cX4_worst 21 = .ok (.aload_n 0, 1) := by decide +kernel
theorem dX4_worst_22 : decode cX4_worst 22 = .ok (.getfield 35, 3) := by decide +kernel
theorem dX4_worst_25 : decode cX4_worst 25 = .ok (.aload_n 0, 1) := by decide +kernel
theorem dX4_worst_26 : decode cX4_worst 26 = .ok (.getfield 14, 3) := by decide +kernel
theorem dX4_worst_29 : decode cX4_worst 29 = .ok (.iload 4, 2) := by decide +kernel
theorem dX4_worst_31 : decode cX4_worst 31 = .ok (.aload_n 0, 1) := by decide +kernel
theorem dX4_worst_32 : decode cX4_worst 32 = .ok (.getfield 48, 3) := by decide +kernel
theorem dX4_worst_35 : decode cX4_worst 35 = .ok (.iconst 0, 1) := by decide +kernel
theorem dX4_worst_36 : decode cX4_worst 36 = .ok (.iaload, 1) := by decide +kernel
theorem dX4_worst_37 : decode cX4_worst 37 = .ok (.invokevirtual 177, 3) := by decide +kernel
theorem dX4_worst_40 : decode cX4_worst 40 = .ok (.istore 5, 2) := by decide +kernel
theorem dX4_worst_42 : decode cX4_worst 42 = .ok (.iload 5, 2) := by decide +kernel
theorem dX4_worst_44 : decode cX4_worst 44 = .ok (.iload_n 2, 1) := by decide +kernel
theorem dX4_worst_45 : decode cX4_worst 45 = .ok (.if_icmp .le 9, 3) := by decide +kernel
theorem dX4_worst_48 : decode cX4_worst 48 = .ok (.iload 5, 2) := by decide +kernel
theorem dX4_worst_50 : decode cX4_worst 50 = .ok (.istore_n 2, 1) := by decide +kernel
theorem dX4_worst_51 : decode cX4_worst 51 = .ok (.iload 4, 2) := by decide +kernel
theorem dX4_worst_53 : decode cX4_worst 53 = .ok (.istore_n 3, 1) := by decide +kernel
theorem dX4_worst_54 : decode cX4_worst 54 = .ok (.iinc 4 1, 3) := by decide +kernel
theorem dX4_worst_57 : decode cX4_worst 57 = .ok (.goto (-42), 3) := by decide +kernel
theorem dX4_worst_60 : decode cX4_worst 60 = .ok (.iload_n 3, 1) := by decide +kernel
theorem dX4_worst_61 : decode cX4_worst 61 = .ok (.ireturn, 1) := by decide +kernel
theorem dX4_many_0 : decode cX4_many 0 = .ok (.iload_n 1, 1) := by decide +kernel
theorem dX4_many_1 : decode cX4_many 1 = .ok (.tableswitch 72 0 4 #[35, 43, 51, 59, 64], 35) := by decide +kernel
theorem dX4_many_36 : decode cX4_many 36 = .ok (.aload_n 0, 1) := by decide +kernel
theorem dX4_many_37 : decode cX4_many 37 = .ok (.getfield 14, 3) := by decide +kernel
theorem dX4_many_40 : decode cX4_many 40 = .ok (.getfield 159, 3) := by decide +kernel
theorem dX4_many_43 : decode cX4_many 43 = .ok (.ireturn, 1) := by decide +kernel
theorem dX4_many_44 : decode cX4_many 44 = .ok (.aload_n 0, 1) := by decide +kernel
theorem dX4_many_45 : decode cX4_many 45 = .ok (.getfield 14, 3) := by decide +kernel
theorem dX4_many_48 : decode cX4_many 48 = .ok (.getfield 184, 3) := by decide +kernel
theorem dX4_many_51 : decode cX4_many 51 = .ok (.ireturn, 1) := by decide +kernel
theorem dX4_many_52 : decode cX4_many 52 = .ok (.aload_n 0, 1) := by decide +kernel
theorem dX4_many_53 : decode cX4_many 53 = .ok (.getfield 14, 3) := by decide +kernel
theorem dX4_many_56 : decode cX4_many 56 = .ok (.invokevirtual 187, 3) := by decide +kernel
theorem dX4_many_59 : decode cX4_many 59 = .ok (.ireturn, 1) := by decide +kernel
theorem dX4_many_60 : decode cX4_many 60 = .ok (.aload_n 0, 1) := by decide +kernel
theorem dX4_many_61 : decode cX4_many 61 = .ok (.invokevirtual 190, 3) := by decide +kernel
theorem dX4_many_64 : decode cX4_many 64 = .ok (.ireturn, 1) := by decide +kernel
theorem dX4_many_65 : decode cX4_many 65 = .ok (.aload_n 0, 1) := by decide +kernel
theorem dX4_many_66 : decode cX4_many 66 = .ok (.getfield 14, 3) := by decide +kernel
theorem dX4_many_69 : decode cX4_many 69 = .ok (.invokevirtual 193, 3) := by decide +kernel
theorem dX4_many_72 : decode cX4_many 72 = .ok (.ireturn, 1) := by decide +kernel
theorem dX4_many_73 : decode cX4_many 73 = .ok (.bipush (-2), 2) := by decide +kernel
theorem dX4_many_75 : decode cX4_many 75 = .ok (.ireturn, 1) := by decide +kernel
theorem dX4_isNot_0 : decode cX4_isNot 0 = .ok (.iload_n 0, 1) := by decide +kernel
theorem dX4_isNot_1 : decode cX4_isNot 1 = .ok (.iload_n 1, 1) := by decide +kernel
end
section
theorem dX4_isNot_2 : decode cX4_isNot 2 = .ok (.if_icmp .lt 8, 3) := by decide +kernel
theorem dX4_isNot_5 : decode cX4_isNot 5 = .ok (.iload_n 0, 1) := by decide +kernel
theorem dX4_isNot_6 : decode cX4_isNot 6 = .ok (.iload_n 2, 1) := by decide +kernel
theorem dX4_isNot_7 : decode cX4_isNot 7 = .ok (.if_icmp .le 7, 3) := by decide +kernel
theorem dX4_isNot_10 : decode cX4_isNot 10 = .ok (.iconst 1, 1) := by decide +kernel
theorem dX4_isNot_11 : decode cX4_isNot 11 = .ok (.goto 4, 3) := by decide +kernel
theorem dX4_isNot_14 : decode cX4_isNot 14 = .ok (.iconst 0, 1) := by decide +kernel
theorem dX4_isNot_15 : decode cX4_isNot 15 = .ok (.ireturn, 1) := by decide +kernel
theorem dX4_cellOf_0 : decode cX4_cellOf 0 = .ok (.iload_n 0, 1) := by decide +kernel
theorem dX4_cellOf_1 : decode cX4_cellOf 1 = .ok (.bipush 7, 2) := by decide +kernel
theorem dX4_cellOf_3 : decode cX4_cellOf 3 = .ok (.imul, 1) := by decide +kernel
theorem dX4_cellOf_4 : decode cX4_cellOf 4 = .ok (.iload_n 1, 1) := by decide +kernel
theorem dX4_cellOf_5 : decode cX4_cellOf 5 = .ok (.iadd, 1) := by decide +kernel
theorem dX4_cellOf_6 : decode cX4_cellOf 6 = .ok (.ireturn, 1) := by decide +kernel
theorem dX4_refusalOfLine_0 : decode cX4_refusalOfLine 0 = .ok (.iload_n 1, 1) := by decide +kernel
theorem dX4_refusalOfLine_1 : decode cX4_refusalOfLine 1 = .ok (.iconst 0, 1) := by decide +kernel
theorem dX4_refusalOfLine_2 : decode cX4_refusalOfLine 2 = .ok (.iconst 1, 1) := by decide +kernel
theorem dX4_refusalOfLine_3 : decode cX4_refusalOfLine 3 = .ok (.invokestatic 61, 3) := by decide +kernel
theorem dX4_refusalOfLine_6 : decode cX4_refusalOfLine 6 = .ok (.ifCond .eq 6, 3) := by decide +kernel
theorem dX4_refusalOfLine_9 : decode cX4_refusalOfLine 9 = .ok (.bipush (-2), 2) := by decide +kernel
theorem dX4_refusalOfLine_11 : decode cX4_refusalOfLine 11 = .ok (.ireturn, 1) := by decide +kernel
theorem dX4_refusalOfLine_12 : decode cX4_refusalOfLine 12 = .ok (.iload_n 2, 1) := by decide +kernel
theorem dX4_refusalOfLine_13 : decode cX4_refusalOfLine 13 = .ok (.iconst 0, 1) := by decide +kernel
theorem dX4_refusalOfLine_14 : decode cX4_refusalOfLine 14 = .ok (.aload_n 0, 1) := by decide +kernel
theorem dX4_refusalOfLine_15 : decode cX4_refusalOfLine 15 = .ok (.getfield 14, 3) := by decide +kernel
theorem dX4_refusalOfLine_18 : decode cX4_refusalOfLine 18 = .ok (.iload_n 1, 1) := by decide +kernel
theorem dX4_refusalOfLine_19 : decode cX4_refusalOfLine 19 = .ok (.invokevirtual 109, 3) := by decide +kernel
theorem dX4_refusalOfLine_22 : decode cX4_refusalOfLine 22 = .ok (.iconst 1, 1) := by decide +kernel
theorem dX4_refusalOfLine_23 : decode cX4_refusalOfLine 23 = .ok (.isub, 1) := by decide +kernel
theorem dX4_refusalOfLine_24 : decode cX4_refusalOfLine 24 = .ok (.invokestatic 61, 3) := by decide +kernel
theorem dX4_refusalOfLine_27 : decode cX4_refusalOfLine 27 = .ok (.ifCond .eq 7, 3) := by decide +kernel
theorem dX4_refusalOfLine_30 : decode cX4_refusalOfLine 30 = .ok (.iconst (-1), 1) := by decide +kernel
theorem dX4_refusalOfLine_31 : decode cX4_refusalOfLine 31 = .ok (.goto 4, 3) := by decide +kernel
theorem dX4_refusalOfLine_34 : decode cX4_refusalOfLine 34 = .ok (.iconst 0, 1) := by decide +kernel
theorem dX4_refusalOfLine_35 : decode cX4_refusalOfLine 35 = .ok (.ireturn, 1) := by decide +kernel
theorem dX4_takeLine_0 : decode cX4_takeLine 0 = .ok (.aload_n 0, 1) := by decide +kernel
theorem dX4_takeLine_1 : decode cX4_takeLine 1 = .ok (.getfield 14, 3) := by decide +kernel
theorem dX4_takeLine_4 : decode cX4_takeLine 4 = .ok (.iload_n 1, 1) := by decide +kernel
theorem dX4_takeLine_5 : decode cX4_takeLine 5 = .ok (.iload_n 2, 1) := by decide +kernel
theorem dX4_takeLine_6 : decode cX4_takeLine 6 = .ok (.aload_n 0, 1) := by decide +kernel
theorem dX4_takeLine_7 : decode cX4_takeLine 7 = .ok (.getfield 21, 3) := by decide +kernel
theorem dX4_takeLine_10 : decode cX4_takeLine 10 = .ok (.invokevirtual 196, 3) := by decide +kernel
theorem dX4_takeLine_13 : decode cX4_takeLine 13 = .ok (.return_, 1) := by decide +kernel
theorem dX4_countUnfair_0 : decode cX4_countUnfair 0 = .ok (.iconst 0, 1) := by decide +kernel
theorem dX4_countUnfair_1 : decode cX4_countUnfair 1 = .ok (.istore_n 1, 1) := by decide +kernel
theorem dX4_countUnfair_2 : decode cX4_countUnfair 2 = .ok (.iconst 0, 1) := by decide +kernel
theorem dX4_countUnfair_3 : decode cX4_countUnfair 3 = .ok (.istore_n 2, 1) := by decide +kernel
theorem dX4_countUnfair_4 : decode cX4_countUnfair 4 = .ok (.iload_n 2, 1) := by decide +kernel
theorem dX4_countUnfair_5 : decode cX4_countUnfair 5 = .ok (.iconst 2, 1) := by decide +kernel
theorem dX4_countUnfair_6 : decode cX4_countUnfair 6 = .ok (.if_icmp .ge 54, 3) := by decide +kernel
theorem dX4_countUnfair_9 : decode cX4_countUnfair 9 = .ok (.iconst 0, 1) := by decide +kernel
theorem dX4_countUnfair_10 : decode cX4_countUnfair 10 = .ok (.istore_n 3, 1) := by decide +kernel
theorem dX4_countUnfair_11 : decode cX4_countUnfair 11 = .ok (.iload_n 3, 1) := by decide +kernel
theorem dX4_countUnfair_12 : decode cX4_countUnfair 12 = .ok (.aload_n 0, 1) := by decide +kernel
theorem dX4_countUnfair_13 : decode cX4_countUnfair 13 = .ok (.getfield 14, 3) := by decide +kernel
theorem dX4_countUnfair_16 : decode cX4_countUnfair 16 = .ok (.iload_n 2, 1) := by decide +kernel
theorem dX4_countUnfair_17 : decode cX4_countUnfair 17 = .ok (.invokevirtual 109, 3) := by decide +kernel
theorem dX4_countUnfair_20 : decode cX4_countUnfair 20 = .ok (.if_icmp .ge 34, 3) := by decide +kernel
theorem dX4_countUnfair_23 : decode cX4_countUnfair 23 = .ok (.aload_n 0, 1) := by decide +kernel
theorem dX4_countUnfair_24 : decode cX4_countUnfair 24 = .ok (.iload_n 2, 1) := by decide +kernel
theorem dX4_countUnfair_25 : decode cX4_countUnfair 25 = .ok (.iload_n 3, 1) := by decide +kernel
theorem dX4_countUnfair_26 : decode cX4_countUnfair 26 = .ok (.invokevirtual 96, 3) := by decide +kernel
theorem dX4_countUnfair_29 : decode cX4_countUnfair 29 = .ok (.aload_n 0, 1) := by decide +kernel
theorem dX4_countUnfair_30 : decode cX4_countUnfair 30 = .ok (.getfield 21, 3) := by decide +kernel
theorem dX4_countUnfair_33 : decode cX4_countUnfair 33 = .ok (.invokevirtual 112, 3) := by decide +kernel
theorem dX4_countUnfair_36 : decode cX4_countUnfair 36 = .ok (.aload_n 0, 1) := by decide +kernel
theorem dX4_countUnfair_37 : decode cX4_countUnfair 37 = .ok (.getfield 48, 3) := by decide +kernel
theorem dX4_countUnfair_40 : decode cX4_countUnfair 40 = .ok (.iconst 0, 1) := by decide +kernel
theorem dX4_countUnfair_41 : decode cX4_countUnfair 41 = .ok (.iaload, 1) := by decide +kernel
theorem dX4_countUnfair_42 : decode cX4_countUnfair 42 = .ok (.if_icmp .le 6, 3) := by decide +kernel
theorem dX4_countUnfair_45 : decode cX4_countUnfair 45 = .ok (.iinc 1 1, 3) := by decide +kernel
theorem dX4_countUnfair_48 : decode cX4_countUnfair 48 = .ok (.iinc 3 1, 3) := by decide +kernel
theorem dX4_countUnfair_51 : decode cX4_countUnfair 51 = .ok (.goto (-40), 3) := by decide +kernel
theorem dX4_countUnfair_54 : decode cX4_countUnfair 54 = .ok (.iinc 2 1, 3) := by decide +kernel
theorem dX4_countUnfair_57 : decode cX4_countUnfair 57 = .ok (.goto (-53), 3) := by decide +kernel
theorem dX4_countUnfair_60 : decode cX4_countUnfair 60 = .ok (.iload_n 1, 1) := by decide +kernel
theorem dX4_countUnfair_61 : decode cX4_countUnfair 61 = .ok (.ireturn, 1) := by decide +kernel
theorem dX4_seekLeast_0 : decode cX4_seekLeast 0 = .ok (.aload_n 0, 1) := by decide +kernel
theorem dX4_seekLeast_1 : decode cX4_seekLeast 1 = .ok (.getfield 48, 3) := by decide +kernel
theorem dX4_seekLeast_4 : decode cX4_seekLeast 4 = .ok (.iconst 0, 1) := by decide +kernel
theorem dX4_seekLeast_5 : decode cX4_seekLeast 5 = .ok (.iaload, 1) := by decide +kernel
theorem dX4_seekLeast_6 : decode cX4_seekLeast 6 = .ok (.istore_n 3, 1) := by decide +kernel
theorem dX4_seekLeast_7 : decode cX4_seekLeast 7 = .ok (.aload_n 0, 1) := by decide +kernel
theorem dX4_seekLeast_8 : decode cX4_seekLeast 8 = .ok (.getfield 48, 3) := by decide +kernel
theorem dX4_seekLeast_11 : decode cX4_seekLeast 11 = .ok (.iconst 1, 1) := by decide +kernel
theorem dX4_seekLeast_12 : decode cX4_seekLeast 12 = .ok (.iaload, 1) := by decide +kernel
theorem dX4_seekLeast_13 : decode cX4_seekLeast 13 = .ok (.istore 4, 2) := by decide +kernel
theorem dX4_seekLeast_15 : decode cX4_seekLeast 15 = .ok (.aload_n 0, 1) := by decide +kernel
theorem dX4_seekLeast_16 : decode cX4_seekLeast 16 = .ok (.iload_n 1, 1) := by decide +kernel
theorem dX4_seekLeast_17 : decode cX4_seekLeast 17 = .ok (.iload_n 2, 1) := by decide +kernel
theorem dX4_seekLeast_18 : decode cX4_seekLeast 18 = .ok (.invokevirtual 96, 3) := by decide +kernel
theorem dX4_seekLeast_21 : decode cX4_seekLeast 21 = .ok (.aload_n 0, 1) := by decide +kernel
theorem dX4_seekLeast_22 : decode cX4_seekLeast 22 = .ok (.getfield 21, 3) := by decide +kernel
theorem dX4_seekLeast_25 : decode cX4_seekLeast 25 = .ok (.invokevirtual 112, 3) := by decide +kernel
theorem dX4_seekLeast_28 : decode cX4_seekLeast 28 = .ok (.istore 5, 2) := by decide +kernel
theorem dX4_seekLeast_30 : decode cX4_seekLeast 30 = .ok (.iload 5, 2) := by decide +kernel
theorem dX4_seekLeast_32 : decode cX4_seekLeast 32 = .ok (.iload_n 3, 1) := by decide +kernel
theorem dX4_seekLeast_33 : decode cX4_seekLeast 33 = .ok (.if_icmp .gt 12, 3) := by decide +kernel
theorem dX4_seekLeast_36 : decode cX4_seekLeast 36 = .ok (.aload_n 0, 1) := by decide +kernel
theorem dX4_seekLeast_37 : decode cX4_seekLeast 37 = .ok (.getfield 28, 3) := by decide +kernel
theorem dX4_seekLeast_40 : decode cX4_seekLeast 40 = .ok (.invokevirtual 200, 3) := by decide +kernel
theorem dX4_seekLeast_43 : decode cX4_seekLeast 43 = .ok (.iconst 0, 1) := by decide +kernel
theorem dX4_seekLeast_44 : decode cX4_seekLeast 44 = .ok (.ireturn, 1) := by decide +kernel
theorem dX4_seekLeast_45 : decode cX4_seekLeast 45 = .ok (.iload 5, 2) := by decide +kernel
theorem dX4_seekLeast_47 : decode cX4_seekLeast 47 = .ok (.iload_n 3, 1) := by decide +kernel
theorem dX4_seekLeast_48 : decode cX4_seekLeast 48 = .ok (.bipush 8, 2) := by decide +kernel
theorem dX4_seekLeast_50 : decode cX4_seekLeast 50 = .ok (.iload 4, 2) := by decide +kernel
theorem dX4_seekLeast_52 : decode cX4_seekLeast 52 = .ok (.imul, 1) := by decide +kernel
theorem dX4_seekLeast_53 : decode cX4_seekLeast 53 = .ok (.iadd, 1) := by decide +kernel
theorem dX4_seekLeast_54 : decode cX4_seekLeast 54 = .ok (.if_icmp .le 6, 3) := by decide +kernel
theorem dX4_seekLeast_57 : decode cX4_seekLeast 57 = .ok (.bipush (-9), 2) := by decide +kernel
theorem dX4_seekLeast_59 : decode cX4_seekLeast 59 = .ok (.ireturn, 1) := by decide +kernel
theorem dX4_seekLeast_60 : decode cX4_seekLeast 60 = .ok (.iconst 0, 1) := by decide +kernel
theorem dX4_seekLeast_61 : decode cX4_seekLeast 61 = .ok (.istore 6, 2) := by decide +kernel
theorem dX4_seekLeast_63 : decode cX4_seekLeast 63 = .ok (.iload 6, 2) := by decide +kernel
theorem dX4_seekLeast_65 : decode cX4_seekLeast 65 = .ok (.aload_n 0, 1) := by decide +kernel
theorem dX4_seekLeast_66 : decode cX4_seekLeast 66 = .ok (.getfield 21, 3) := by decide +kernel
theorem dX4_seekLeast_69 : decode cX4_seekLeast 69 = .ok (.getfield 99, 3) := by decide +kernel
theorem dX4_seekLeast_72 : decode cX4_seekLeast 72 = .ok (.if_icmp .ge 60, 3) := by decide +kernel
theorem dX4_seekLeast_75 : decode cX4_seekLeast 75 = .ok (.aload_n 0, 1) := by decide +kernel
theorem dX4_seekLeast_76 : decode cX4_seekLeast 76 = .ok (.getfield 14, 3) := by decide +kernel
theorem dX4_seekLeast_79 : decode cX4_seekLeast 79 = .ok (.getfield 76, 3) := by decide +kernel
theorem dX4_seekLeast_82 : decode cX4_seekLeast 82 = .ok (.aload_n 0, 1) := by decide +kernel
theorem dX4_seekLeast_83 : decode cX4_seekLeast 83 = .ok (.getfield 14, 3) := by decide +kernel
theorem dX4_seekLeast_86 : decode cX4_seekLeast 86 = .ok (.iload_n 1, 1) := by decide +kernel
theorem dX4_seekLeast_87 : decode cX4_seekLeast 87 = .ok (.iload_n 2, 1) := by decide +kernel
theorem dX4_seekLeast_88 : decode cX4_seekLeast 88 = .ok (.iload 6, 2) := by decide +kernel
theorem dX4_seekLeast_90 : decode cX4_seekLeast 90 = .ok (.invokevirtual 203, 3) := by decide +kernel
theorem dX4_seekLeast_93 : decode cX4_seekLeast 93 = .ok (.baload, 1) := by decide +kernel
theorem dX4_seekLeast_94 : decode cX4_seekLeast 94 = .ok (.istore 7, 2) := by decide +kernel
theorem dX4_seekLeast_96 : decode cX4_seekLeast 96 = .ok (.aload_n 0, 1) := by decide +kernel
theorem dX4_seekLeast_97 : decode cX4_seekLeast 97 = .ok (.getfield 28, 3) := by decide +kernel
theorem dX4_seekLeast_100 : decode cX4_seekLeast 100 = .ok (.iload 6, 2) := by decide +kernel
theorem dX4_seekLeast_102 : decode cX4_seekLeast 102 = .ok (.aload_n 0, 1) := by decide +kernel
theorem dX4_seekLeast_103 : decode cX4_seekLeast 103 = .ok (.getfield 21, 3) := by decide +kernel
theorem dX4_seekLeast_106 : decode cX4_seekLeast 106 = .ok (.getfield 152, 3) := by decide +kernel
theorem dX4_seekLeast_109 : decode cX4_seekLeast 109 = .ok (.iload 6, 2) := by decide +kernel
theorem dX4_seekLeast_111 : decode cX4_seekLeast 111 = .ok (.iaload, 1) := by decide +kernel
theorem dX4_seekLeast_112 : decode cX4_seekLeast 112 = .ok (.iload 7, 2) := by decide +kernel
theorem dX4_seekLeast_114 : decode cX4_seekLeast 114 = .ok (.ifCond .eq 7, 3) := by decide +kernel
theorem dX4_seekLeast_117 : decode cX4_seekLeast 117 = .ok (.iconst 0, 1) := by decide +kernel
theorem dX4_seekLeast_118 : decode cX4_seekLeast 118 = .ok (.goto 5, 3) := by decide +kernel
theorem dX4_seekLeast_121 : decode cX4_seekLeast 121 = .ok (.iload 4, 2) := by decide +kernel
theorem dX4_seekLeast_123 : decode cX4_seekLeast 123 = .ok (.invokevirtual 207, 3) := by decide +kernel
theorem dX4_seekLeast_126 : decode cX4_seekLeast 126 = .ok (.iinc 6 1, 3) := by decide +kernel
theorem dX4_seekLeast_129 : decode cX4_seekLeast 129 = .ok (.goto (-66), 3) := by decide +kernel
theorem dX4_seekLeast_132 : decode cX4_seekLeast 132 = .ok (.aload_n 0, 1) := by decide +kernel
theorem dX4_seekLeast_133 : decode cX4_seekLeast 133 = .ok (.getfield 28, 3) := by decide +kernel
theorem dX4_seekLeast_136 : decode cX4_seekLeast 136 = .ok (.aload_n 0, 1) := by decide +kernel
theorem dX4_seekLeast_137 : decode cX4_seekLeast 137 = .ok (.getfield 21, 3) := by decide +kernel
theorem dX4_seekLeast_140 : decode cX4_seekLeast 140 = .ok (.getfield 99, 3) := by decide +kernel
theorem dX4_seekLeast_143 : decode cX4_seekLeast 143 = .ok (.iload_n 3, 1) := by decide +kernel
theorem dX4_seekLeast_144 : decode cX4_seekLeast 144 = .ok (.invokevirtual 211, 3) := by decide +kernel
theorem dX4_seekLeast_147 : decode cX4_seekLeast 147 = .ok (.ireturn, 1) := by decide +kernel
theorem dX4_addMoves_0 : decode cX4_addMoves 0 = .ok (.aload_n 0, 1) := by decide +kernel
theorem dX4_addMoves_1 : decode cX4_addMoves 1 = .ok (.getfield 14, 3) := by decide +kernel
theorem dX4_addMoves_4 : decode cX4_addMoves 4 = .ok (.iload_n 1, 1) := by decide +kernel
theorem dX4_addMoves_5 : decode cX4_addMoves 5 = .ok (.invokevirtual 122, 3) := by decide +kernel
theorem dX4_addMoves_8 : decode cX4_addMoves 8 = .ok (.istore_n 3, 1) := by decide +kernel
theorem dX4_addMoves_9 : decode cX4_addMoves 9 = .ok (.iconst 0, 1) := by decide +kernel
theorem dX4_addMoves_10 : decode cX4_addMoves 10 = .ok (.istore 4, 2) := by decide +kernel
theorem dX4_addMoves_12 : decode cX4_addMoves 12 = .ok (.iload 4, 2) := by decide +kernel
theorem dX4_addMoves_14 : decode cX4_addMoves 14 = .ok (.iload_n 3, 1) := by decide +kernel
theorem dX4_addMoves_15 : decode cX4_addMoves 15 = .ok (.if_icmp .ge 40, 3) := by decide +kernel
theorem dX4_addMoves_18 : decode cX4_addMoves 18 = .ok (.aload_n 0, 1) := by decide +kernel
theorem dX4_addMoves_19 : decode cX4_addMoves 19 = .ok (.getfield 14, 3) := by decide +kernel
theorem dX4_addMoves_22 : decode cX4_addMoves 22 = .ok (.getfield 86, 3) := by decide +kernel
theorem dX4_addMoves_25 : decode cX4_addMoves 25 = .ok (.aload_n 0, 1) := by decide +kernel
theorem dX4_addMoves_26 : decode cX4_addMoves 26 = .ok (.getfield 14, 3) := by decide +kernel
theorem dX4_addMoves_29 : decode cX4_addMoves 29 = .ok (.iload_n 1, 1) := by decide +kernel
theorem dX4_addMoves_30 : decode cX4_addMoves 30 = .ok (.iload_n 2, 1) := by decide +kernel
theorem dX4_addMoves_31 : decode cX4_addMoves 31 = .ok (.iload 4, 2) := by decide +kernel
theorem dX4_addMoves_33 : decode cX4_addMoves 33 = .ok (.invokevirtual 203, 3) := by decide +kernel
theorem dX4_addMoves_36 : decode cX4_addMoves 36 = .ok (.dup2, 1) := by decide +kernel
theorem dX4_addMoves_37 : decode cX4_addMoves 37 = .ok (.iaload, 1) := by decide +kernel
theorem dX4_addMoves_38 : decode cX4_addMoves 38 = .ok (.aload_n 0, 1) := by decide +kernel
theorem dX4_addMoves_39 : decode cX4_addMoves 39 = .ok (.getfield 28, 3) := by decide +kernel
theorem dX4_addMoves_42 : decode cX4_addMoves 42 = .ok (.iload 4, 2) := by decide +kernel
theorem dX4_addMoves_44 : decode cX4_addMoves 44 = .ok (.invokevirtual 128, 3) := by decide +kernel
theorem dX4_addMoves_47 : decode cX4_addMoves 47 = .ok (.iadd, 1) := by decide +kernel
theorem dX4_addMoves_48 : decode cX4_addMoves 48 = .ok (.iastore, 1) := by decide +kernel
theorem dX4_addMoves_49 : decode cX4_addMoves 49 = .ok (.iinc 4 1, 3) := by decide +kernel
theorem dX4_addMoves_52 : decode cX4_addMoves 52 = .ok (.goto (-40), 3) := by decide +kernel
theorem dX4_addMoves_55 : decode cX4_addMoves 55 = .ok (.return_, 1) := by decide +kernel
theorem dX4_roundChanges_0 : decode cX4_roundChanges 0 = .ok (.aload_n 0, 1) := by decide +kernel
theorem dX4_roundChanges_1 : decode cX4_roundChanges 1 = .ok (.getfield 14, 3) := by decide +kernel
theorem dX4_roundChanges_4 : decode cX4_roundChanges 4 = .ok (.getfield 86, 3) := by decide +kernel
theorem dX4_roundChanges_7 : decode cX4_roundChanges 7 = .ok (.iconst 0, 1) := by decide +kernel
theorem dX4_roundChanges_8 : decode cX4_roundChanges 8 = .ok (.aload_n 0, 1) := by decide +kernel
theorem dX4_roundChanges_9 : decode cX4_roundChanges 9 = .ok (.getfield 51, 3) := by decide +kernel
theorem dX4_roundChanges_12 : decode cX4_roundChanges 12 = .ok (.iconst 0, 1) := by decide +kernel
theorem dX4_roundChanges_13 : decode cX4_roundChanges 13 = .ok (.bipush 63, 2) := by decide +kernel
theorem dX4_roundChanges_15 : decode cX4_roundChanges 15 = .ok (.invokestatic 214, 3) := by decide +kernel
theorem dX4_roundChanges_18 : decode cX4_roundChanges 18 = .ok (.iconst 0, 1) := by decide +kernel
theorem dX4_roundChanges_19 : decode cX4_roundChanges 19 = .ok (.istore_n 1, 1) := by decide +kernel
theorem dX4_roundChanges_20 : decode cX4_roundChanges 20 = .ok (.iload_n 1, 1) := by decide +kernel
theorem dX4_roundChanges_21 : decode cX4_roundChanges 21 = .ok (.iconst 2, 1) := by decide +kernel
theorem dX4_roundChanges_22 : decode cX4_roundChanges 22 = .ok (.if_icmp .ge 46, 3) := by decide +kernel
theorem dX4_roundChanges_25 : decode cX4_roundChanges 25 = .ok (.iconst 0, 1) := by decide +kernel
theorem dX4_roundChanges_26 : decode cX4_roundChanges 26 = .ok (.istore_n 2, 1) := by decide +kernel
theorem dX4_roundChanges_27 : decode cX4_roundChanges 27 = .ok (.iload_n 2, 1) := by decide +kernel
theorem dX4_roundChanges_28 : decode cX4_roundChanges 28 = .ok (.aload_n 0, 1) := by decide +kernel
theorem dX4_roundChanges_29 : decode cX4_roundChanges 29 = .ok (.getfield 14, 3) := by decide +kernel
theorem dX4_roundChanges_32 : decode cX4_roundChanges 32 = .ok (.iload_n 1, 1) := by decide +kernel
theorem dX4_roundChanges_33 : decode cX4_roundChanges 33 = .ok (.invokevirtual 109, 3) := by decide +kernel
theorem dX4_roundChanges_36 : decode cX4_roundChanges 36 = .ok (.if_icmp .ge 26, 3) := by decide +kernel
theorem dX4_roundChanges_39 : decode cX4_roundChanges 39 = .ok (.aload_n 0, 1) := by decide +kernel
theorem dX4_roundChanges_40 : decode cX4_roundChanges 40 = .ok (.iload_n 1, 1) := by decide +kernel
theorem dX4_roundChanges_41 : decode cX4_roundChanges 41 = .ok (.iload_n 2, 1) := by decide +kernel
theorem dX4_roundChanges_42 : decode cX4_roundChanges 42 = .ok (.invokevirtual 125, 3) := by decide +kernel
theorem dX4_roundChanges_45 : decode cX4_roundChanges 45 = .ok (.bipush (-9), 2) := by decide +kernel
theorem dX4_roundChanges_47 : decode cX4_roundChanges 47 = .ok (.if_icmp .eq 9, 3) := by decide +kernel
theorem dX4_roundChanges_50 : decode cX4_roundChanges 50 = .ok (.aload_n 0, 1) := by decide +kernel
theorem dX4_roundChanges_51 : decode cX4_roundChanges 51 = .ok (.iload_n 1, 1) := by decide +kernel
theorem dX4_roundChanges_52 : decode cX4_roundChanges 52 = .ok (.iload_n 2, 1) := by decide +kernel
theorem dX4_roundChanges_53 : decode cX4_roundChanges 53 = .ok (.invokevirtual 131, 3) := by decide +kernel
theorem dX4_roundChanges_56 : decode cX4_roundChanges 56 = .ok (.iinc 2 1, 3) := by decide +kernel
theorem dX4_roundChanges_59 : decode cX4_roundChanges 59 = .ok (.goto (-32), 3) := by decide +kernel
theorem dX4_roundChanges_62 : decode cX4_roundChanges 62 = .ok (.iinc 1 1, 3) := by decide +kernel
theorem dX4_roundChanges_65 : decode cX4_roundChanges 65 = .ok (.goto (-45), 3) := by decide +kernel
theorem dX4_roundChanges_68 : decode cX4_roundChanges 68 = .ok (.iconst 0, 1) := by decide +kernel
theorem dX4_roundChanges_69 : decode cX4_roundChanges 69 = .ok (.istore_n 1, 1) := by decide +kernel
theorem dX4_roundChanges_70 : decode cX4_roundChanges 70 = .ok (.iload_n 1, 1) := by decide +kernel
theorem dX4_roundChanges_71 : decode cX4_roundChanges 71 = .ok (.bipush 63, 2) := by decide +kernel
theorem dX4_roundChanges_73 : decode cX4_roundChanges 73 = .ok (.if_icmp .ge 29, 3) := by decide +kernel
theorem dX4_roundChanges_76 : decode cX4_roundChanges 76 = .ok (.aload_n 0, 1) := by decide +kernel
theorem dX4_roundChanges_77 : decode cX4_roundChanges 77 = .ok (.getfield 14, 3) := by decide +kernel
theorem dX4_roundChanges_80 : decode cX4_roundChanges 80 = .ok (.getfield 86, 3) := by decide +kernel
theorem dX4_roundChanges_83 : decode cX4_roundChanges 83 = .ok (.iload_n 1, 1) := by decide +kernel
theorem dX4_roundChanges_84 : decode cX4_roundChanges 84 = .ok (.iaload, 1) := by decide +kernel
theorem dX4_roundChanges_85 : decode cX4_roundChanges 85 = .ok (.aload_n 0, 1) := by decide +kernel
theorem dX4_roundChanges_86 : decode cX4_roundChanges 86 = .ok (.getfield 51, 3) := by decide +kernel
theorem dX4_roundChanges_89 : decode cX4_roundChanges 89 = .ok (.iload_n 1, 1) := by decide +kernel
theorem dX4_roundChanges_90 : decode cX4_roundChanges 90 = .ok (.iaload, 1) := by decide +kernel
theorem dX4_roundChanges_91 : decode cX4_roundChanges 91 = .ok (.if_icmp .eq 5, 3) := by decide +kernel
theorem dX4_roundChanges_94 : decode cX4_roundChanges 94 = .ok (.iconst 1, 1) := by decide +kernel
theorem dX4_roundChanges_95 : decode cX4_roundChanges 95 = .ok (.ireturn, 1) := by decide +kernel
theorem dX4_roundChanges_96 : decode cX4_roundChanges 96 = .ok (.iinc 1 1, 3) := by decide +kernel
theorem dX4_roundChanges_99 : decode cX4_roundChanges 99 = .ok (.goto (-29), 3) := by decide +kernel
theorem dX4_roundChanges_102 : decode cX4_roundChanges 102 = .ok (.iconst 0, 1) := by decide +kernel
theorem dX4_roundChanges_103 : decode cX4_roundChanges 103 = .ok (.ireturn, 1) := by decide +kernel
theorem dX4_areaInSixths_0 : decode cX4_areaInSixths 0 = .ok (.aload_n 0, 1) := by decide +kernel
theorem dX4_areaInSixths_1 : decode cX4_areaInSixths 1 = .ok (.iload_n 1, 1) := by decide +kernel
theorem dX4_areaInSixths_2 : decode cX4_areaInSixths 2 = .ok (.iload_n 2, 1) := by decide +kernel
theorem dX4_areaInSixths_3 : decode cX4_areaInSixths 3 = .ok (.invokevirtual 96, 3) := by decide +kernel
theorem dX4_areaInSixths_6 : decode cX4_areaInSixths 6 = .ok (.iload_n 1, 1) := by decide +kernel
theorem dX4_areaInSixths_7 : decode cX4_areaInSixths 7 = .ok (.ifCond .ne 12, 3) := by decide +kernel
theorem dX4_areaInSixths_10 : decode cX4_areaInSixths 10 = .ok (.aload_n 0, 1) := by decide +kernel
theorem dX4_areaInSixths_11 : decode cX4_areaInSixths 11 = .ok (.getfield 48, 3) := by decide +kernel
theorem dX4_areaInSixths_14 : decode cX4_areaInSixths 14 = .ok (.iconst 2, 1) := by decide +kernel
theorem dX4_areaInSixths_15 : decode cX4_areaInSixths 15 = .ok (.iaload, 1) := by decide +kernel
theorem dX4_areaInSixths_16 : decode cX4_areaInSixths 16 = .ok (.goto 9, 3) := by decide +kernel
theorem dX4_areaInSixths_19 : decode cX4_areaInSixths 19 = .ok (.aload_n 0, 1) := by decide +kernel
theorem dX4_areaInSixths_20 : decode cX4_areaInSixths 20 = .ok (.getfield 48, 3) := by decide +kernel
theorem dX4_areaInSixths_23 : decode cX4_areaInSixths 23 = .ok (.iconst 3, 1) := by decide +kernel
theorem dX4_areaInSixths_24 : decode cX4_areaInSixths 24 = .ok (.iaload, 1) := by decide +kernel
theorem dX4_areaInSixths_25 : decode cX4_areaInSixths 25 = .ok (.istore_n 3, 1) := by decide +kernel
theorem dX4_areaInSixths_26 : decode cX4_areaInSixths 26 = .ok (.aload_n 0, 1) := by decide +kernel
theorem dX4_areaInSixths_27 : decode cX4_areaInSixths 27 = .ok (.getfield 21, 3) := by decide +kernel
theorem dX4_areaInSixths_30 : decode cX4_areaInSixths 30 = .ok (.getfield 152, 3) := by decide +kernel
theorem dX4_areaInSixths_33 : decode cX4_areaInSixths 33 = .ok (.aload_n 0, 1) := by decide +kernel
theorem dX4_areaInSixths_34 : decode cX4_areaInSixths 34 = .ok (.getfield 21, 3) := by decide +kernel
theorem dX4_areaInSixths_37 : decode cX4_areaInSixths 37 = .ok (.getfield 99, 3) := by decide +kernel
theorem dX4_areaInSixths_40 : decode cX4_areaInSixths 40 = .ok (.invokestatic 153, 3) := by decide +kernel
theorem dX4_areaInSixths_43 : decode cX4_areaInSixths 43 = .ok (.iload_n 3, 1) := by decide +kernel
theorem dX4_areaInSixths_44 : decode cX4_areaInSixths 44 = .ok (.imul, 1) := by decide +kernel
theorem dX4_areaInSixths_45 : decode cX4_areaInSixths 45 = .ok (.ireturn, 1) := by decide +kernel
theorem dX4_sumInSixths_0 : decode cX4_sumInSixths 0 = .ok (.iload_n 1, 1) := by decide +kernel
theorem dX4_sumInSixths_1 : decode cX4_sumInSixths 1 = .ok (.iconst 3, 1) := by decide +kernel
theorem dX4_sumInSixths_2 : decode cX4_sumInSixths 2 = .ok (.if_icmp .lt 9, 3) := by decide +kernel
theorem dX4_sumInSixths_5 : decode cX4_sumInSixths 5 = .ok (.iload_n 1, 1) := by decide +kernel
theorem dX4_sumInSixths_6 : decode cX4_sumInSixths 6 = .ok (.aload_n 0, 1) := by decide +kernel
theorem dX4_sumInSixths_7 : decode cX4_sumInSixths 7 = .ok (.arraylength, 1) := by decide +kernel
theorem dX4_sumInSixths_8 : decode cX4_sumInSixths 8 = .ok (.if_icmp .le 5, 3) := by decide +kernel
theorem dX4_sumInSixths_11 : decode cX4_sumInSixths 11 = .ok (.iconst 0, 1) := by decide +kernel
theorem dX4_sumInSixths_12 : decode cX4_sumInSixths 12 = .ok (.ireturn, 1) := by decide +kernel
theorem dX4_sumInSixths_13 : decode cX4_sumInSixths 13 = .ok (.iload_n 1, 1) := by decide +kernel
theorem dX4_sumInSixths_14 : decode cX4_sumInSixths 14 = .ok (.iconst 2, 1) := by decide +kernel
theorem dX4_sumInSixths_15 : decode cX4_sumInSixths 15 = .ok (.irem, 1) := by decide +kernel
theorem dX4_sumInSixths_16 : decode cX4_sumInSixths 16 = .ok (.ifCond .ne 9, 3) := by decide +kernel
theorem dX4_sumInSixths_19 : decode cX4_sumInSixths 19 = .ok (.iload_n 1, 1) := by decide +kernel
theorem dX4_sumInSixths_20 : decode cX4_sumInSixths 20 = .ok (.iconst 1, 1) := by decide +kernel
theorem dX4_sumInSixths_21 : decode cX4_sumInSixths 21 = .ok (.isub, 1) := by decide +kernel
theorem dX4_sumInSixths_22 : decode cX4_sumInSixths 22 = .ok (.goto 4, 3) := by decide +kernel
theorem dX4_sumInSixths_25 : decode cX4_sumInSixths 25 = .ok (.iload_n 1, 1) := by decide +kernel
theorem dX4_sumInSixths_26 : decode cX4_sumInSixths 26 = .ok (.istore_n 2, 1) := by decide +kernel
theorem dX4_sumInSixths_27 : decode cX4_sumInSixths 27 = .ok (.aload_n 0, 1) := by decide +kernel
theorem dX4_sumInSixths_28 : decode cX4_sumInSixths 28 = .ok (.iconst 0, 1) := by decide +kernel
theorem dX4_sumInSixths_29 : decode cX4_sumInSixths 29 = .ok (.iaload, 1) := by decide +kernel
theorem dX4_sumInSixths_30 : decode cX4_sumInSixths 30 = .ok (.aload_n 0, 1) := by decide +kernel
theorem dX4_sumInSixths_31 : decode cX4_sumInSixths 31 = .ok (.iload_n 2, 1) := by decide +kernel
theorem dX4_sumInSixths_32 : decode cX4_sumInSixths 32 = .ok (.iconst 1, 1) := by decide +kernel
theorem dX4_sumInSixths_33 : decode cX4_sumInSixths 33 = .ok (.isub, 1) := by decide +kernel
theorem dX4_sumInSixths_34 : decode cX4_sumInSixths 34 = .ok (.iaload, 1) := by decide +kernel
theorem dX4_sumInSixths_35 : decode cX4_sumInSixths 35 = .ok (.iadd, 1) := by decide +kernel
theorem dX4_sumInSixths_36 : decode cX4_sumInSixths 36 = .ok (.istore_n 3, 1) := by decide +kernel
theorem dX4_sumInSixths_37 : decode cX4_sumInSixths 37 = .ok (.iconst 1, 1) := by decide +kernel
theorem dX4_sumInSixths_38 : decode cX4_sumInSixths 38 = .ok (.istore 4, 2) := by decide +kernel
theorem dX4_sumInSixths_40 : decode cX4_sumInSixths 40 = .ok (.iload 4, 2) := by decide +kernel
theorem dX4_sumInSixths_42 : decode cX4_sumInSixths 42 = .ok (.iload_n 2, 1) := by decide +kernel
theorem dX4_sumInSixths_43 : decode cX4_sumInSixths 43 = .ok (.iconst 1, 1) := by decide +kernel
theorem dX4_sumInSixths_44 : decode cX4_sumInSixths 44 = .ok (.isub, 1) := by decide +kernel
theorem dX4_sumInSixths_45 : decode cX4_sumInSixths 45 = .ok (.if_icmp .ge 29, 3) := by decide +kernel
theorem dX4_sumInSixths_48 : decode cX4_sumInSixths 48 = .ok (.iload_n 3, 1) := by decide +kernel
theorem dX4_sumInSixths_49 : decode cX4_sumInSixths 49 = .ok (.iload 4, 2) := by decide +kernel
theorem dX4_sumInSixths_51 : decode cX4_sumInSixths 51 = .ok (.iconst 2, 1) := by decide +kernel
theorem dX4_sumInSixths_52 : decode cX4_sumInSixths 52 = .ok (.irem, 1) := by decide +kernel
theorem dX4_sumInSixths_53 : decode cX4_sumInSixths 53 = .ok (.ifCond .ne 7, 3) := by decide +kernel
theorem dX4_sumInSixths_56 : decode cX4_sumInSixths 56 = .ok (.iconst 2, 1) := by decide +kernel
theorem dX4_sumInSixths_57 : decode cX4_sumInSixths 57 = .ok (.goto 4, 3) := by decide +kernel
theorem dX4_sumInSixths_60 : decode cX4_sumInSixths 60 = .ok (.iconst 4, 1) := by decide +kernel
theorem dX4_sumInSixths_61 : decode cX4_sumInSixths 61 = .ok (.aload_n 0, 1) := by decide +kernel
theorem dX4_sumInSixths_62 : decode cX4_sumInSixths 62 = .ok (.iload 4, 2) := by decide +kernel
theorem dX4_sumInSixths_64 : decode cX4_sumInSixths 64 = .ok (.iaload, 1) := by decide +kernel
theorem dX4_sumInSixths_65 : decode cX4_sumInSixths 65 = .ok (.imul, 1) := by decide +kernel
theorem dX4_sumInSixths_66 : decode cX4_sumInSixths 66 = .ok (.iadd, 1) := by decide +kernel
theorem dX4_sumInSixths_67 : decode cX4_sumInSixths 67 = .ok (.istore_n 3, 1) := by decide +kernel
theorem dX4_sumInSixths_68 : decode cX4_sumInSixths 68 = .ok (.iinc 4 1, 3) := by decide +kernel
theorem dX4_sumInSixths_71 : decode cX4_sumInSixths 71 = .ok (.goto (-31), 3) := by decide +kernel
theorem dX4_sumInSixths_74 : decode cX4_sumInSixths 74 = .ok (.iconst 2, 1) := by decide +kernel
theorem dX4_sumInSixths_75 : decode cX4_sumInSixths 75 = .ok (.iload_n 3, 1) := by decide +kernel
theorem dX4_sumInSixths_76 : decode cX4_sumInSixths 76 = .ok (.imul, 1) := by decide +kernel
theorem dX4_sumInSixths_77 : decode cX4_sumInSixths 77 = .ok (.istore 4, 2) := by decide +kernel
theorem dX4_sumInSixths_79 : decode cX4_sumInSixths 79 = .ok (.iload_n 2, 1) := by decide +kernel
theorem dX4_sumInSixths_80 : decode cX4_sumInSixths 80 = .ok (.iload_n 1, 1) := by decide +kernel
theorem dX4_sumInSixths_81 : decode cX4_sumInSixths 81 = .ok (.if_icmp .ne 8, 3) := by decide +kernel
theorem dX4_sumInSixths_84 : decode cX4_sumInSixths 84 = .ok (.iload 4, 2) := by decide +kernel
theorem dX4_sumInSixths_86 : decode cX4_sumInSixths 86 = .ok (.goto 19, 3) := by decide +kernel
theorem dX4_sumInSixths_89 : decode cX4_sumInSixths 89 = .ok (.iload 4, 2) := by decide +kernel
theorem dX4_sumInSixths_91 : decode cX4_sumInSixths 91 = .ok (.iconst 3, 1) := by decide +kernel
theorem dX4_sumInSixths_92 : decode cX4_sumInSixths 92 = .ok (.aload_n 0, 1) := by decide +kernel
theorem dX4_sumInSixths_93 : decode cX4_sumInSixths 93 = .ok (.iload_n 1, 1) := by decide +kernel
theorem dX4_sumInSixths_94 : decode cX4_sumInSixths 94 = .ok (.iconst 2, 1) := by decide +kernel
theorem dX4_sumInSixths_95 : decode cX4_sumInSixths 95 = .ok (.isub, 1) := by decide +kernel
theorem dX4_sumInSixths_96 : decode cX4_sumInSixths 96 = .ok (.iaload, 1) := by decide +kernel
theorem dX4_sumInSixths_97 : decode cX4_sumInSixths 97 = .ok (.aload_n 0, 1) := by decide +kernel
theorem dX4_sumInSixths_98 : decode cX4_sumInSixths 98 = .ok (.iload_n 1, 1) := by decide +kernel
theorem dX4_sumInSixths_99 : decode cX4_sumInSixths 99 = .ok (.iconst 1, 1) := by decide +kernel
theorem dX4_sumInSixths_100 : decode cX4_sumInSixths 100 = .ok (.isub, 1) := by decide +kernel
theorem dX4_sumInSixths_101 : decode cX4_sumInSixths 101 = .ok (.iaload, 1) := by decide +kernel
theorem dX4_sumInSixths_102 : decode cX4_sumInSixths 102 = .ok (.iadd, 1) := by decide +kernel
theorem dX4_sumInSixths_103 : decode cX4_sumInSixths 103 = .ok (.imul, 1) := by decide +kernel
theorem dX4_sumInSixths_104 : decode cX4_sumInSixths 104 = .ok (.iadd, 1) := by decide +kernel
theorem dX4_sumInSixths_105 : decode cX4_sumInSixths 105 = .ok (.ireturn, 1) := by decide +kernel
theorem dX4_toldShare_0 : decode cX4_toldShare 0 = .ok (.lload_n 0, 1) := by decide +kernel
theorem dX4_toldShare_1 : decode cX4_toldShare 1 = .ok (.lload_n 2, 1) := by decide +kernel
theorem dX4_toldShare_2 : decode cX4_toldShare 2 = .ok (.invokestatic 220, 3) := by decide +kernel
theorem dX4_toldShare_5 : decode cX4_toldShare 5 = .ok (.lstore 5, 2) := by decide +kernel
theorem dX4_toldShare_7 : decode cX4_toldShare 7 = .ok (.lload 5, 2) := by decide +kernel
theorem dX4_toldShare_9 : decode cX4_toldShare 9 = .ok (.lconst 0, 1) := by decide +kernel
theorem dX4_toldShare_10 : decode cX4_toldShare 10 = .ok (.lcmp, 1) := by decide +kernel
theorem dX4_toldShare_11 : decode cX4_toldShare 11 = .ok (.ifCond .ne 7, 3) := by decide +kernel
theorem dX4_toldShare_14 : decode cX4_toldShare 14 = .ok (.ldc2_w 141, 3) := by decide +kernel
theorem dX4_toldShare_17 : decode cX4_toldShare 17 = .ok (.lreturn, 1) := by decide +kernel
theorem dX4_toldShare_18 : decode cX4_toldShare 18 = .ok (.iload 4, 2) := by decide +kernel
theorem dX4_toldShare_20 : decode cX4_toldShare 20 = .ok (.ifCond .ne 10, 3) := by decide +kernel
theorem dX4_toldShare_23 : decode cX4_toldShare 23 = .ok (.lload_n 0, 1) := by decide +kernel
theorem dX4_toldShare_24 : decode cX4_toldShare 24 = .ok (.lload 5, 2) := by decide +kernel
theorem dX4_toldShare_26 : decode cX4_toldShare 26 = .ok (.ldiv, 1) := by decide +kernel
theorem dX4_toldShare_27 : decode cX4_toldShare 27 = .ok (.goto 7, 3) := by decide +kernel
theorem dX4_toldShare_30 : decode cX4_toldShare 30 = .ok (.lload_n 2, 1) := by decide +kernel
theorem dX4_toldShare_31 : decode cX4_toldShare 31 = .ok (.lload 5, 2) := by decide +kernel
theorem dX4_toldShare_33 : decode cX4_toldShare 33 = .ok (.ldiv, 1) := by decide +kernel
theorem dX4_toldShare_34 : decode cX4_toldShare 34 = .ok (.lreturn, 1) := by decide +kernel
theorem dX4_commonDivisor_0 : decode cX4_commonDivisor 0 = .ok (.lload_n 0, 1) := by decide +kernel
theorem dX4_commonDivisor_1 : decode cX4_commonDivisor 1 = .ok (.lstore 4, 2) := by decide +kernel
theorem dX4_commonDivisor_3 : decode cX4_commonDivisor 3 = .ok (.lload_n 2, 1) := by decide +kernel
theorem dX4_commonDivisor_4 : decode cX4_commonDivisor 4 = .ok (.lstore 6, 2) := by decide +kernel
theorem dX4_commonDivisor_6 : decode cX4_commonDivisor 6 = .ok (.iconst 0, 1) := by decide +kernel
theorem dX4_commonDivisor_7 : decode cX4_commonDivisor 7 = .ok (.istore 8, 2) := by decide +kernel
theorem dX4_commonDivisor_9 : decode cX4_commonDivisor 9 = .ok (.iload 8, 2) := by decide +kernel
theorem dX4_commonDivisor_11 : decode cX4_commonDivisor 11 = .ok (.bipush 100, 2) := by decide +kernel
theorem dX4_commonDivisor_13 : decode cX4_commonDivisor 13 = .ok (.if_icmp .ge 31, 3) := by decide +kernel
theorem dX4_commonDivisor_16 : decode cX4_commonDivisor 16 = .ok (.lload 6, 2) := by decide +kernel
theorem dX4_commonDivisor_18 : decode cX4_commonDivisor 18 = .ok (.lconst 0, 1) := by decide +kernel
theorem dX4_commonDivisor_19 : decode cX4_commonDivisor 19 = .ok (.lcmp, 1) := by decide +kernel
theorem dX4_commonDivisor_20 : decode cX4_commonDivisor 20 = .ok (.ifCond .eq 24, 3) := by decide +kernel
theorem dX4_commonDivisor_23 : decode cX4_commonDivisor 23 = .ok (.lload 4, 2) := by decide +kernel
theorem dX4_commonDivisor_25 : decode cX4_commonDivisor 25 = .ok (.lload 6, 2) := by decide +kernel
theorem dX4_commonDivisor_27 : decode cX4_commonDivisor 27 = .ok (.lrem, 1) := by decide +kernel
theorem dX4_commonDivisor_28 : decode cX4_commonDivisor 28 = .ok (.lstore 9, 2) := by decide +kernel
theorem dX4_commonDivisor_30 : decode cX4_commonDivisor 30 = .ok (.lload 6, 2) := by decide +kernel
theorem dX4_commonDivisor_32 : decode cX4_commonDivisor 32 = .ok (.lstore 4, 2) := by decide +kernel
theorem dX4_commonDivisor_34 : decode cX4_commonDivisor 34 = .ok (.lload 9, 2) := by decide +kernel
theorem dX4_commonDivisor_36 : decode cX4_commonDivisor 36 = .ok (.lstore 6, 2) := by decide +kernel
theorem dX4_commonDivisor_38 : decode cX4_commonDivisor 38 = .ok (.iinc 8 1, 3) := by decide +kernel
theorem dX4_commonDivisor_41 : decode cX4_commonDivisor 41 = .ok (.goto (-32), 3) := by decide +kernel
theorem dX4_commonDivisor_44 : decode cX4_commonDivisor 44 = .ok (.lload 4, 2) := by decide +kernel
theorem dX4_commonDivisor_46 : decode cX4_commonDivisor 46 = .ok (.lreturn, 1) := by decide +kernel
end
section
theorem dX5_init_0 : decode cX5_init 0 = .ok (.aload_n 0, 1) := by decide +kernel
theorem dX5_init_1 : decode cX5_init 1 = .ok (.invokespecial 1, 3) := by decide +kernel
theorem dX5_init_4 : decode cX5_init 4 = .ok (.aload_n 0, 1) := by decide +kernel
theorem dX5_init_5 : decode cX5_init 5 = .ok (.bipush 10, 2) := by decide +kernel
theorem dX5_init_7 : decode cX5_init 7 = .ok (.putfield 7, 3) := by decide +kernel
theorem dX5_init_10 : decode cX5_init 10 = .ok (.aload_n 0, 1) := by decide +kernel
theorem dX5_init_11 : decode cX5_init 11 = .ok (.iconst 2, 1) := by decide +kernel
theorem dX5_init_12 : decode cX5_init 12 = .ok (.putfield 13, 3) := by decide +kernel
theorem dX5_init_15 : decode cX5_init 15 = .ok (.aload_n 0, 1) := by decide +kernel
theorem dX5_init_16 : decode cX5_init 16 = .ok (.bipush 10, 2) := by decide +kernel
theorem dX5_init_18 : decode cX5_init 18 = .ok (.putfield 16, 3) := by decide +kernel
theorem dX5_init_21 : decode cX5_init 21 = .ok (.aload_n 0, 1) := by decide +kernel
theorem dX5_init_22 : decode cX5_init 22 = .ok (.iconst 5, 1) := by decide +kernel
theorem dX5_init_23 : decode cX5_init 23 = .ok (.putfield 19, 3) := by decide +kernel
theorem dX5_init_26 : decode cX5_init 26 = .ok (.aload_n 0, 1) := by decide +kernel
theorem dX5_init_27 : decode cX5_init 27 = .ok (.bipush 63, 2) := by decide +kernel
theorem dX5_init_29 : decode cX5_init 29 = .ok (.newarray .int, 2) := by decide +kernel
theorem dX5_init_31 : decode cX5_init 31 = .ok (.putfield 22, 3) := by decide +kernel
theorem dX5_init_34 : decode cX5_init 34 = .ok (.aload_n 0, 1) := by decide +kernel
theorem dX5_init_35 : decode cX5_init 35 = .ok (.bipush 63, 2) := by decide +kernel
theorem dX5_init_37 : decode cX5_init 37 = .ok (.newarray .int, 2) := by decide +kernel
theorem dX5_init_39 : decode cX5_init 39 = .ok (.putfield 26, 3) := by decide +kernel
theorem dX5_init_42 : decode cX5_init 42 = .ok (.aload_n 0, 1) := by decide +kernel
theorem dX5_init_43 : decode cX5_init 43 = .ok (.bipush 63, 2) := by decide +kernel
theorem dX5_init_45 : decode cX5_init 45 = .ok (.newarray .boolean, 2) := by decide +kernel
theorem dX5_init_47 : decode cX5_init 47 = .ok (.putfield 29, 3) := by decide +kernel
theorem dX5_init_50 : decode cX5_init 50 = .ok (.aload_n 0, 1) := by decide +kernel
theorem dX5_init_51 : decode cX5_init 51 = .ok (.bipush 9, 2) := by decide +kernel
theorem dX5_init_53 : decode cX5_init 53 = .ok (.newarray .int, 2) := by decide +kernel
theorem dX5_init_55 : decode cX5_init 55 = .ok (.putfield 33, 3) := by decide +kernel
theorem dX5_init_58 : decode cX5_init 58 = .ok (.aload_n 0, 1) := by decide +kernel
theorem dX5_init_59 : decode cX5_init 59 = .ok (.bipush 9, 2) := by decide +kernel
theorem dX5_init_61 : decode cX5_init 61 = .ok (.newarray .int, 2) := by decide +kernel
theorem dX5_init_63 : decode cX5_init 63 = .ok (.putfield 36, 3) := by decide +kernel
theorem dX5_init_66 : decode cX5_init 66 = .ok (.aload_n 0, 1) := by decide +kernel
theorem dX5_init_67 : decode cX5_init 67 = .ok (.sipush 2744, 3) := by decide +kernel
theorem dX5_init_70 : decode cX5_init 70 = .ok (.newarray .int, 2) := by decide +kernel
theorem dX5_init_72 : decode cX5_init 72 = .ok (.putfield 39, 3) := by decide +kernel
theorem dX5_init_75 : decode cX5_init 75 = .ok (.aload_n 0, 1) := by decide +kernel
theorem dX5_init_76 : decode cX5_init 76 = .ok (.bipush 9, 2) := by decide +kernel
theorem dX5_init_78 : decode cX5_init 78 = .ok (.newarray .int, 2) := by decide +kernel
theorem dX5_init_80 : decode cX5_init 80 = .ok (.putfield 42, 3) := by decide +kernel
theorem dX5_init_83 : decode cX5_init 83 = .ok (.aload_n 0, 1) := by decide +kernel
theorem dX5_init_84 : decode cX5_init 84 = .ok (.bipush 63, 2) := by decide +kernel
theorem dX5_init_86 : decode cX5_init 86 = .ok (.newarray .int, 2) := by decide +kernel
theorem dX5_init_88 : decode cX5_init 88 = .ok (.putfield 45, 3) := by decide +kernel
theorem dX5_init_91 : decode cX5_init 91 = .ok (.aload_n 0, 1) := by decide +kernel
theorem dX5_init_92 : decode cX5_init 92 = .ok (.bipush 9, 2) := by decide +kernel
theorem dX5_init_94 : decode cX5_init 94 = .ok (.newarray .long, 2) := by decide +kernel
theorem dX5_init_96 : decode cX5_init 96 = .ok (.putfield 48, 3) := by decide +kernel
theorem dX5_init_99 : decode cX5_init 99 = .ok (.aload_n 0, 1) := by decide +kernel
theorem dX5_init_100 : decode cX5_init 100 = .ok (.bipush 9, 2) := by decide +kernel
theorem dX5_init_102 : decode cX5_init 102 = .ok (.newarray .long, 2) := by decide +kernel
theorem dX5_init_104 : decode cX5_init 104 = .ok (.putfield 52, 3) := by decide +kernel
theorem dX5_init_107 : decode cX5_init 107 = .ok (.aload_n 0, 1) := by decide +kernel
theorem dX5_init_108 : decode cX5_init 108 = .ok (.bipush 9, 2) := by decide +kernel
theorem dX5_init_110 : decode cX5_init 110 = .ok (.newarray .long, 2) := by decide +kernel
theorem dX5_init_112 : decode cX5_init 112 = .ok (.putfield 55, 3) := by decide +kernel
theorem dX5_init_115 : decode cX5_init 115 = .ok (.aload_n 0, 1) := by decide +kernel
theorem dX5_init_116 : decode cX5_init 116 = .ok (.bipush 9, 2) := by decide +kernel
theorem dX5_init_118 : decode cX5_init 118 = .ok (.newarray .long, 2) := by decide +kernel
theorem dX5_init_120 : decode cX5_init 120 = .ok (.putfield 58, 3) := by decide +kernel
theorem dX5_init_123 : decode cX5_init 123 = .ok (.aload_n 0, 1) := by decide +kernel
theorem dX5_init_124 : decode cX5_init 124 = .ok (.bipush 7, 2) := by decide +kernel
theorem dX5_init_126 : decode cX5_init 126 = .ok (.putfield 61, 3) := by decide +kernel
theorem dX5_init_129 : decode cX5_init 129 = .ok (.aload_n 0, 1) := by decide +kernel
theorem dX5_init_130 : decode cX5_init 130 = .ok (.iconst 5, 1) := by decide +kernel
theorem dX5_init_131 : decode cX5_init 131 = .ok (.putfield 64, 3) := by decide +kernel
theorem dX5_init_134 : decode cX5_init 134 = .ok (.return_, 1) := by decide +kernel
theorem dX5_within_0 : decode cX5_within 0 = .ok (.lload_n 0, 1) := by decide +kernel
theorem dX5_within_1 : decode cX5_within 1 = .ok (.lload_n 2, 1) := by decide +kernel
theorem dX5_within_2 : decode cX5_within 2 = .ok (.lcmp, 1) := by decide +kernel
theorem dX5_within_3 : decode cX5_within 3 = .ok (.ifCond .lt 14, 3) := by decide +kernel
theorem dX5_within_6 : decode cX5_within 6 = .ok (.lload_n 0, 1) := by decide +kernel
theorem dX5_within_7 : decode cX5_within 7 = .ok (.lload 4, 2) := by decide +kernel
theorem dX5_within_9 : decode cX5_within 9 = .ok (.lcmp, 1) := by decide +kernel
theorem dX5_within_10 : decode cX5_within 10 = .ok (.ifCond .gt 7, 3) := by decide +kernel
theorem dX5_within_13 : decode cX5_within 13 = .ok (.iconst 1, 1) := by decide +kernel
theorem dX5_within_14 : decode cX5_within 14 = .ok (.goto 4, 3) := by decide +kernel
theorem dX5_within_17 : decode cX5_within 17 = .ok (.iconst 0, 1) := by decide +kernel
theorem dX5_within_18 : decode cX5_within 18 = .ok (.ireturn, 1) := by decide +kernel
theorem dX5_far_0 : decode cX5_far 0 = .ok (.iload_n 0, 1) := by decide +kernel
theorem dX5_far_1 : decode cX5_far 1 = .ok (.ifCond .ge 8, 3) := by decide +kernel
theorem dX5_far_4 : decode cX5_far 4 = .ok (.iload_n 0, 1) := by decide +kernel
theorem dX5_far_5 : decode cX5_far 5 = .ok (.ineg, 1) := by decide +kernel
theorem dX5_far_6 : decode cX5_far 6 = .ok (.goto 4, 3) := by decide +kernel
theorem dX5_far_9 : decode cX5_far 9 = .ok (.iload_n 0, 1) := by decide +kernel
theorem dX5_far_10 : decode cX5_far 10 = .ok (.ireturn, 1) := by decide +kernel
theorem dX5_isPoint_0 : decode cX5_isPoint 0 = .ok (.iload_n 1, 1) := by decide +kernel
theorem dX5_isPoint_1 : decode cX5_isPoint 1 = .ok (.i2l, 1) := by decide +kernel
theorem dX5_isPoint_2 : decode cX5_isPoint 2 = .ok (.lconst 0, 1) := by decide +kernel
theorem dX5_isPoint_3 : decode cX5_isPoint 3 = .ok (.aload_n 0, 1) := by decide +kernel
theorem dX5_isPoint_4 : decode cX5_isPoint 4 = .ok (.getfield 61, 3) := by decide +kernel
theorem dX5_isPoint_7 : decode cX5_isPoint 7 = .ok (.iconst 1, 1) := by decide +kernel
theorem dX5_isPoint_8 : decode cX5_isPoint 8 = .ok (.isub, 1) := by decide +kernel
theorem dX5_isPoint_9 : decode cX5_isPoint 9 = .ok (.i2l, 1) := by decide +kernel
theorem dX5_isPoint_10 : decode cX5_isPoint 10 = .ok (.invokestatic 67, 3) := by decide +kernel
theorem dX5_isPoint_13 : decode cX5_isPoint 13 = .ok (.ifCond .eq 23, 3) := by decide +kernel
theorem dX5_isPoint_16 : decode cX5_isPoint 16 = .ok (.iload_n 2, 1) := by decide +kernel
theorem dX5_isPoint_17 : decode cX5_isPoint 17 = .ok (.i2l, 1) := by decide +kernel
theorem dX5_isPoint_18 : decode cX5_isPoint 18 = .ok (.lconst 0, 1) := by decide +kernel
theorem dX5_isPoint_19 : decode cX5_isPoint 19 = .ok (.aload_n 0, 1) := by decide +kernel
theorem dX5_isPoint_20 : decode cX5_isPoint 20 = .ok (.getfield 64, 3) := by decide +kernel
theorem dX5_isPoint_23 : decode cX5_isPoint 23 = .ok (.iconst 1, 1) := by decide +kernel
theorem dX5_isPoint_24 : decode cX5_isPoint 24 = .ok (.isub, 1) := by decide +kernel
theorem dX5_isPoint_25 : decode cX5_isPoint 25 = .ok (.i2l, 1) := by decide +kernel
theorem dX5_isPoint_26 : decode cX5_isPoint 26 = .ok (.invokestatic 67, 3) := by decide +kernel
theorem dX5_isPoint_29 : decode cX5_isPoint 29 = .ok (.ifCond .eq 7, 3) := by decide +kernel
theorem dX5_isPoint_32 : decode cX5_isPoint 32 = .ok (.iconst 1, 1) := by decide +kernel
theorem dX5_isPoint_33 : decode cX5_isPoint 33 = .ok (.goto 4, 3) := by decide +kernel
theorem dX5_isPoint_36 : decode cX5_isPoint 36 = .ok (.iconst 0, 1) := by decide +kernel
theorem dX5_isPoint_37 : decode cX5_isPoint 37 = .ok (.ireturn, 1) := by decide +kernel
theorem dX5_isOffset_0 : decode cX5_isOffset 0 = .ok (.iload_n 0, 1) := by decide +kernel
theorem dX5_isOffset_1 : decode cX5_isOffset 1 = .ok (.i2l, 1) := by decide +kernel
theorem dX5_isOffset_2 : decode cX5_isOffset 2 = .ok (.lconst 0, 1) := by decide +kernel
theorem dX5_isOffset_3 : decode cX5_isOffset 3 = .ok (.ldc2_w 71, 3) := by decide +kernel
theorem dX5_isOffset_6 : decode cX5_isOffset 6 = .ok (.invokestatic 67, 3) := by decide +kernel
theorem dX5_isOffset_9 : decode cX5_isOffset 9 = .ok (.ireturn, 1) := by decide +kernel
theorem dX5_hull_0 : decode cX5_hull 0 = .ok (.iload_n 1, 1) := by decide +kernel
theorem dX5_hull_1 : decode cX5_hull 1 = .ok (.i2l, 1) := by decide +kernel
theorem dX5_hull_2 : decode cX5_hull 2 = .ok (.ldc2_w 73, 3) := by decide +kernel
theorem dX5_hull_5 : decode cX5_hull 5 = .ok (.ldc2_w 75, 3) := by decide +kernel
theorem dX5_hull_8 : decode cX5_hull 8 = .ok (.invokestatic 67, 3) := by decide +kernel
theorem dX5_hull_11 : decode cX5_hull 11 = .ok (.ifCond .eq 17, 3) := by decide +kernel
theorem dX5_hull_14 : decode cX5_hull 14 = .ok (.iload_n 2, 1) := by decide +kernel
theorem dX5_hull_15 : decode cX5_hull 15 = .ok (.i2l, 1) := by decide +kernel
theorem dX5_hull_16 : decode cX5_hull 16 = .ok (.ldc2_w 77, 3) := by decide +kernel
theorem dX5_hull_19 : decode cX5_hull 19 = .ok (.ldc2_w 79, 3) := by decide +kernel
theorem dX5_hull_22 : decode cX5_hull 22 = .ok (.invokestatic 67, 3) := by decide +kernel
theorem dX5_hull_25 : decode cX5_hull 25 = .ok (.ifCond .ne 6, 3) := by decide +kernel
theorem dX5_hull_28 : decode cX5_hull 28 = .ok (.bipush (-2), 2) := by decide +kernel
theorem dX5_hull_30 : decode cX5_hull 30 = .ok (.ireturn, 1) := by decide +kernel
theorem dX5_hull_31 : decode cX5_hull 31 = .ok (.aload_n 0, 1) := by decide +kernel
theorem dX5_hull_32 : decode cX5_hull 32 = .ok (.iload_n 1, 1) := by decide +kernel
theorem dX5_hull_33 : decode cX5_hull 33 = .ok (.putfield 61, 3) := by decide +kernel
theorem dX5_hull_36 : decode cX5_hull 36 = .ok (.aload_n 0, 1) := by decide +kernel
theorem dX5_hull_37 : decode cX5_hull 37 = .ok (.iload_n 2, 1) := by decide +kernel
theorem dX5_hull_38 : decode cX5_hull 38 = .ok (.putfield 64, 3) := by decide +kernel
theorem dX5_hull_41 : decode cX5_hull 41 = .ok (.iconst 0, 1) := by decide +kernel
theorem dX5_hull_42 : decode cX5_hull 42 = .ok (.istore_n 3, 1) := by decide +kernel
theorem dX5_hull_43 : decode cX5_hull 43 = .ok (.iload_n 3, 1) := by decide +kernel
theorem dX5_hull_44 : decode cX5_hull 44 = .ok (.bipush 63, 2) := by decide +kernel
theorem dX5_hull_46 : decode cX5_hull 46 = .ok (.if_icmp .ge 30, 3) := by decide +kernel
theorem dX5_hull_49 : decode cX5_hull 49 = .ok (.aload_n 0, 1) := by decide +kernel
theorem dX5_hull_50 : decode cX5_hull 50 = .ok (.getfield 22, 3) := by decide +kernel
theorem dX5_hull_53 : decode cX5_hull 53 = .ok (.iload_n 3, 1) := by decide +kernel
theorem dX5_hull_54 : decode cX5_hull 54 = .ok (.iconst 0, 1) := by decide +kernel
theorem dX5_hull_55 : decode cX5_hull 55 = .ok (.iastore, 1) := by decide +kernel
theorem dX5_hull_56 : decode cX5_hull 56 = .ok (.aload_n 0, 1) := by decide +kernel
theorem dX5_hull_57 : decode cX5_hull 57 = .ok (.getfield 26, 3) := by decide +kernel
theorem dX5_hull_60 : decode cX5_hull 60 = .ok (.iload_n 3, 1) := by decide +kernel
theorem dX5_hull_61 : decode cX5_hull 61 = .ok (.iconst 0, 1) := by decide +kernel
theorem dX5_hull_62 : decode cX5_hull 62 = .ok (.iastore, 1) := by decide +kernel
theorem dX5_hull_63 : decode cX5_hull 63 = .ok (.aload_n 0, 1) := by decide +kernel
theorem dX5_hull_64 : decode cX5_hull 64 = .ok (.getfield 29, 3) := by decide +kernel
theorem dX5_hull_67 : decode cX5_hull 67 = .ok (.iload_n 3, 1) := by decide +kernel
theorem dX5_hull_68 : decode cX5_hull 68 = .ok (.iconst 0, 1) := by decide +kernel
theorem dX5_hull_69 : decode cX5_hull 69 = .ok (.bastore, 1) := by decide +kernel
theorem dX5_hull_70 : decode cX5_hull 70 = .ok (.iinc 3 1, 3) := by decide +kernel
theorem dX5_hull_73 : decode cX5_hull 73 = .ok (.goto (-30), 3) := by decide +kernel
theorem dX5_hull_76 : decode cX5_hull 76 = .ok (.iconst 1, 1) := by decide +kernel
theorem dX5_hull_77 : decode cX5_hull 77 = .ok (.ireturn, 1) := by decide +kernel
theorem dX5_offset_0 : decode cX5_offset 0 = .ok (.aload_n 0, 1) := by decide +kernel
theorem dX5_offset_1 : decode cX5_offset 1 = .ok (.iload_n 1, 1) := by decide +kernel
theorem dX5_offset_2 : decode cX5_offset 2 = .ok (.iload_n 2, 1) := by decide +kernel
theorem dX5_offset_3 : decode cX5_offset 3 = .ok (.invokevirtual 81, 3) := by decide +kernel
theorem dX5_offset_6 : decode cX5_offset 6 = .ok (.ifCond .ne 5, 3) := by decide +kernel
theorem dX5_offset_9 : decode cX5_offset 9 = .ok (.iconst (-1), 1) := by decide +kernel
theorem dX5_offset_10 : decode cX5_offset 10 = .ok (.ireturn, 1) := by decide +kernel
theorem dX5_offset_11 : decode cX5_offset 11 = .ok (.iload_n 3, 1) := by decide +kernel
theorem dX5_offset_12 : decode cX5_offset 12 = .ok (.invokestatic 85, 3) := by decide +kernel
theorem dX5_offset_15 : decode cX5_offset 15 = .ok (.ifCond .ne 6, 3) := by decide +kernel
theorem dX5_offset_18 : decode cX5_offset 18 = .ok (.bipush (-2), 2) := by decide +kernel
theorem dX5_offset_20 : decode cX5_offset 20 = .ok (.ireturn, 1) := by decide +kernel
theorem dX5_offset_21 : decode cX5_offset 21 = .ok (.aload_n 0, 1) := by decide +kernel
theorem dX5_offset_22 : decode cX5_offset 22 = .ok (.getfield 22, 3) := by decide +kernel
theorem dX5_offset_25 : decode cX5_offset 25 = .ok (.bipush 7, 2) := by decide +kernel
theorem dX5_offset_27 : decode cX5_offset 27 = .ok (.iload_n 1, 1) := by decide +kernel
theorem dX5_offset_28 : decode cX5_offset 28 = .ok (.imul, 1) := by decide +kernel
theorem dX5_offset_29 : decode cX5_offset 29 = .ok (.iload_n 2, 1) := by decide +kernel
theorem dX5_offset_30 : decode cX5_offset 30 = .ok (.iadd, 1) := by decide +kernel
theorem dX5_offset_31 : decode cX5_offset 31 = .ok (.iaload, 1) := by decide +kernel
theorem dX5_offset_32 : decode cX5_offset 32 = .ok (.istore 4, 2) := by decide +kernel
theorem dX5_offset_34 : decode cX5_offset 34 = .ok (.aload_n 0, 1) := by decide +kernel
theorem dX5_offset_35 : decode cX5_offset 35 = .ok (.getfield 22, 3) := by decide +kernel
theorem dX5_offset_38 : decode cX5_offset 38 = .ok (.bipush 7, 2) := by decide +kernel
theorem dX5_offset_40 : decode cX5_offset 40 = .ok (.iload_n 1, 1) := by decide +kernel
theorem dX5_offset_41 : decode cX5_offset 41 = .ok (.imul, 1) := by decide +kernel
theorem dX5_offset_42 : decode cX5_offset 42 = .ok (.iload_n 2, 1) := by decide +kernel
theorem dX5_offset_43 : decode cX5_offset 43 = .ok (.iadd, 1) := by decide +kernel
theorem dX5_offset_44 : decode cX5_offset 44 = .ok (.iload_n 3, 1) := by decide +kernel
theorem dX5_offset_45 : decode cX5_offset 45 = .ok (.iastore, 1) := by decide +kernel
theorem dX5_offset_46 : decode cX5_offset 46 = .ok (.aload_n 0, 1) := by decide +kernel
theorem dX5_offset_47 : decode cX5_offset 47 = .ok (.getfield 26, 3) := by decide +kernel
theorem dX5_offset_50 : decode cX5_offset 50 = .ok (.bipush 7, 2) := by decide +kernel
theorem dX5_offset_52 : decode cX5_offset 52 = .ok (.iload_n 1, 1) := by decide +kernel
theorem dX5_offset_53 : decode cX5_offset 53 = .ok (.imul, 1) := by decide +kernel
theorem dX5_offset_54 : decode cX5_offset 54 = .ok (.iload_n 2, 1) := by decide +kernel
theorem dX5_offset_55 : decode cX5_offset 55 = .ok (.iadd, 1) := by decide +kernel
theorem dX5_offset_56 : decode cX5_offset 56 = .ok (.iload_n 3, 1) := by decide +kernel
theorem dX5_offset_57 : decode cX5_offset 57 = .ok (.iastore, 1) := by decide +kernel
theorem dX5_offset_58 : decode cX5_offset 58 = .ok (.iload 4, 2) := by decide +kernel
theorem dX5_offset_60 : decode cX5_offset 60 = .ok (.ireturn, 1) := by decide +kernel
theorem dX5_hold_0 : decode cX5_hold 0 = .ok (.aload_n 0, 1) := by decide +kernel
theorem dX5_hold_1 : decode cX5_hold 1 = .ok (.iload_n 1, 1) := by decide +kernel
theorem dX5_hold_2 : decode cX5_hold 2 = .ok (.iload_n 2, 1) := by decide +kernel
theorem dX5_hold_3 : decode cX5_hold 3 = .ok (.invokevirtual 81, 3) := by decide +kernel
theorem dX5_hold_6 : decode cX5_hold 6 = .ok (.ifCond .ne 5, 3) := by decide +kernel
theorem dX5_hold_9 : decode cX5_hold 9 = .ok (.iconst (-1), 1) := by decide +kernel
theorem dX5_hold_10 : decode cX5_hold 10 = .ok (.ireturn, 1) := by decide +kernel
theorem dX5_hold_11 : decode cX5_hold 11 = .ok (.aload_n 0, 1) := by decide +kernel
theorem dX5_hold_12 : decode cX5_hold 12 = .ok (.getfield 29, 3) := by decide +kernel
theorem dX5_hold_15 : decode cX5_hold 15 = .ok (.bipush 7, 2) := by decide +kernel
theorem dX5_hold_17 : decode cX5_hold 17 = .ok (.iload_n 1, 1) := by decide +kernel
theorem dX5_hold_18 : decode cX5_hold 18 = .ok (.imul, 1) := by decide +kernel
theorem dX5_hold_19 : decode cX5_hold 19 = .ok (.iload_n 2, 1) := by decide +kernel
theorem dX5_hold_20 : decode cX5_hold 20 = .ok (.iadd, 1) := by decide +kernel
theorem dX5_hold_21 : decode cX5_hold 21 = .ok (.baload, 1) := by decide +kernel
theorem dX5_hold_22 : decode cX5_hold 22 = .ok (.istore 4, 2) := by decide +kernel
theorem dX5_hold_24 : decode cX5_hold 24 = .ok (.aload_n 0, 1) := by decide +kernel
theorem dX5_hold_25 : decode cX5_hold 25 = .ok (.getfield 29, 3) := by decide +kernel
theorem dX5_hold_28 : decode cX5_hold 28 = .ok (.bipush 7, 2) := by decide +kernel
theorem dX5_hold_30 : decode cX5_hold 30 = .ok (.iload_n 1, 1) := by decide +kernel
theorem dX5_hold_31 : decode cX5_hold 31 = .ok (.imul, 1) := by decide +kernel
theorem dX5_hold_32 : decode cX5_hold 32 = .ok (.iload_n 2, 1) := by decide +kernel
theorem dX5_hold_33 : decode cX5_hold 33 = .ok (.iadd, 1) := by decide +kernel
theorem dX5_hold_34 : decode cX5_hold 34 = .ok (.iload_n 3, 1) := by decide +kernel
theorem dX5_hold_35 : decode cX5_hold 35 = .ok (.bastore, 1) := by decide +kernel
theorem dX5_hold_36 : decode cX5_hold 36 = .ok (.iload 4, 2) := by decide +kernel
theorem dX5_hold_38 : decode cX5_hold 38 = .ok (.iload_n 3, 1) := by decide +kernel
theorem dX5_hold_39 : decode cX5_hold 39 = .ok (.if_icmp .ne 7, 3) := by decide +kernel
theorem dX5_hold_42 : decode cX5_hold 42 = .ok (.iconst 0, 1) := by decide +kernel
theorem dX5_hold_43 : decode cX5_hold 43 = .ok (.goto 4, 3) := by decide +kernel
theorem dX5_hold_46 : decode cX5_hold 46 = .ok (.iconst 1, 1) := by decide +kernel
theorem dX5_hold_47 : decode cX5_hold 47 = .ok (.ireturn, 1) := by decide +kernel
theorem dX5_setting_0 : decode cX5_setting 0 = .ok (.iconst 0, 1) := by decide +kernel
theorem dX5_setting_1 : decode cX5_setting 1 = .ok (.istore_n 3, 1) := by decide +kernel
theorem dX5_setting_2 : decode cX5_setting 2 = .ok (.iload_n 1, 1) := by decide +kernel
theorem dX5_setting_3 : decode cX5_setting 3 = .ok (.tableswitch 137 0 3 #[29, 56, 83, 110], 29) := by decide +kernel
theorem dX5_setting_32 : decode cX5_setting 32 = .ok (.iload_n 2, 1) := by decide +kernel
theorem dX5_setting_33 : decode cX5_setting 33 = .ok (.i2l, 1) := by decide +kernel
theorem dX5_setting_34 : decode cX5_setting 34 = .ok (.lconst 0, 1) := by decide +kernel
theorem dX5_setting_35 : decode cX5_setting 35 = .ok (.ldc2_w 71, 3) := by decide +kernel
theorem dX5_setting_38 : decode cX5_setting 38 = .ok (.invokestatic 67, 3) := by decide +kernel
theorem dX5_setting_41 : decode cX5_setting 41 = .ok (.ifCond .ne 6, 3) := by decide +kernel
theorem dX5_setting_44 : decode cX5_setting 44 = .ok (.bipush (-2), 2) := by decide +kernel
theorem dX5_setting_46 : decode cX5_setting 46 = .ok (.ireturn, 1) := by decide +kernel
theorem dX5_setting_47 : decode cX5_setting 47 = .ok (.aload_n 0, 1) := by decide +kernel
theorem dX5_setting_48 : decode cX5_setting 48 = .ok (.getfield 7, 3) := by decide +kernel
theorem dX5_setting_51 : decode cX5_setting 51 = .ok (.istore_n 3, 1) := by decide +kernel
theorem dX5_setting_52 : decode cX5_setting 52 = .ok (.aload_n 0, 1) := by decide +kernel
theorem dX5_setting_53 : decode cX5_setting 53 = .ok (.iload_n 2, 1) := by decide +kernel
theorem dX5_setting_54 : decode cX5_setting 54 = .ok (.putfield 7, 3) := by decide +kernel
theorem dX5_setting_57 : decode cX5_setting 57 = .ok (.iload_n 3, 1) := by decide +kernel
theorem dX5_setting_58 : decode cX5_setting 58 = .ok (.ireturn, 1) := by decide +kernel
theorem dX5_setting_59 : decode cX5_setting 59 = .ok (.iload_n 2, 1) := by decide +kernel
theorem dX5_setting_60 : decode cX5_setting 60 = .ok (.i2l, 1) := by decide +kernel
theorem dX5_setting_61 : decode cX5_setting 61 = .ok (.lconst 0, 1) := by decide +kernel
theorem dX5_setting_62 : decode cX5_setting 62 = .ok (.ldc2_w 89, 3) := by decide +kernel
theorem dX5_setting_65 : decode cX5_setting 65 = .ok (.invokestatic 67, 3) := by decide +kernel
theorem dX5_setting_68 : decode cX5_setting 68 = .ok (.ifCond .ne 6, 3) := by decide +kernel
theorem dX5_setting_71 : decode cX5_setting 71 = .ok (.bipush (-2), 2) := by decide +kernel
theorem dX5_setting_73 : decode cX5_setting 73 = .ok (.ireturn, 1) := by decide +kernel
theorem dX5_setting_74 : decode cX5_setting 74 = .ok (.aload_n 0, 1) := by decide +kernel
theorem dX5_setting_75 : decode cX5_setting 75 = .ok (.getfield 13, 3) := by decide +kernel
theorem dX5_setting_78 : decode cX5_setting 78 = .ok (.istore_n 3, 1) := by decide +kernel
theorem dX5_setting_79 : decode cX5_setting 79 = .ok (.aload_n 0, 1) := by decide +kernel
theorem dX5_setting_80 : decode cX5_setting 80 = .ok (.iload_n 2, 1) := by decide +kernel
theorem dX5_setting_81 : decode cX5_setting 81 = .ok (.putfield 13, 3) := by decide +kernel
theorem dX5_setting_84 : decode cX5_setting 84 = .ok (.iload_n 3, 1) := by decide +kernel
theorem dX5_setting_85 : decode cX5_setting 85 = .ok (.ireturn, 1) := by decide +kernel
theorem dX5_setting_86 : decode cX5_setting 86 = .ok (.iload_n 2, 1) := by decide +kernel
theorem dX5_setting_87 : decode cX5_setting 87 = .ok (.i2l, 1) := by decide +kernel
theorem dX5_setting_88 : decode cX5_setting 88 = .ok (.lconst 1, 1) := by decide +kernel
theorem dX5_setting_89 : decode cX5_setting 89 = .ok (.ldc2_w 91, 3) := by decide +kernel
theorem dX5_setting_92 : decode cX5_setting 92 = .ok (.invokestatic 67, 3) := by decide +kernel
theorem dX5_setting_95 : decode cX5_setting 95 = .ok (.ifCond .ne 6, 3) := by decide +kernel
theorem dX5_setting_98 : decode cX5_setting 98 = .ok (.bipush (-2), 2) := by decide +kernel
theorem dX5_setting_100 : decode cX5_setting 100 = .ok (.ireturn, 1) := by decide +kernel
theorem dX5_setting_101 : decode cX5_setting 101 = .ok (.aload_n 0, 1) := by decide +kernel
theorem dX5_setting_102 : decode cX5_setting 102 = .ok (.getfield 16, 3) := by decide +kernel
theorem dX5_setting_105 : decode cX5_setting 105 = .ok (.istore_n 3, 1) := by decide +kernel
theorem dX5_setting_106 : decode cX5_setting 106 = .ok (.aload_n 0, 1) := by decide +kernel
theorem dX5_setting_107 : decode cX5_setting 107 = .ok (.iload_n 2, 1) := by decide +kernel
theorem dX5_setting_108 : decode cX5_setting 108 = .ok (.putfield 16, 3) := by decide +kernel
theorem dX5_setting_111 : decode cX5_setting 111 = .ok (.iload_n 3, 1) := by decide +kernel
theorem dX5_setting_112 : decode cX5_setting 112 = .ok (.ireturn, 1) := by decide +kernel
theorem dX5_setting_113 : decode cX5_setting 113 = .ok (.iload_n 2, 1) := by decide +kernel
theorem dX5_setting_114 : decode cX5_setting 114 = .ok (.i2l, 1) := by decide +kernel
theorem dX5_setting_115 : decode cX5_setting 115 = .ok (.lconst 1, 1) := by decide +kernel
theorem dX5_setting_116 : decode cX5_setting 116 = .ok (.ldc2_w 91, 3) := by decide +kernel
theorem dX5_setting_119 : decode cX5_setting 119 = .ok (.invokestatic 67, 3) := by decide +kernel
theorem dX5_setting_122 : decode cX5_setting 122 = .ok (.ifCond .ne 6, 3) := by decide +kernel
theorem dX5_setting_125 : decode cX5_setting 125 = .ok (.bipush (-2), 2) := by decide +kernel
theorem dX5_setting_127 : decode cX5_setting 127 = .ok (.ireturn, 1) := by decide +kernel
theorem dX5_setting_128 : decode cX5_setting 128 = .ok (.aload_n 0, 1) := by decide +kernel
theorem dX5_setting_129 : decode cX5_setting 129 = .ok (.getfield 19, 3) := by decide +kernel
theorem dX5_setting_132 : decode cX5_setting 132 = .ok (.istore_n 3, 1) := by decide +kernel
theorem dX5_setting_133 : decode cX5_setting 133 = .ok (.aload_n 0, 1) := by decide +kernel
theorem dX5_setting_134 : decode cX5_setting 134 = .ok (.iload_n 2, 1) := by decide +kernel
theorem dX5_setting_135 : decode cX5_setting 135 = .ok (.putfield 19, 3) := by decide +kernel
theorem dX5_setting_138 : decode cX5_setting 138 = .ok (.iload_n 3, 1) := by decide +kernel
theorem dX5_setting_139 : decode cX5_setting 139 = .ok (.ireturn, 1) := by decide +kernel
theorem dX5_setting_140 : decode cX5_setting 140 = .ok (.bipush (-2), 2) := by decide +kernel
theorem dX5_setting_142 : decode cX5_setting 142 = .ok (.ireturn, 1) := by decide +kernel
theorem dX5_ofPoint_0 : decode cX5_ofPoint 0 = .ok (.aload_n 0, 1) := by decide +kernel
theorem dX5_ofPoint_1 : decode cX5_ofPoint 1 = .ok (.iload_n 1, 1) := by decide +kernel
theorem dX5_ofPoint_2 : decode cX5_ofPoint 2 = .ok (.iload_n 2, 1) := by decide +kernel
theorem dX5_ofPoint_3 : decode cX5_ofPoint 3 = .ok (.invokevirtual 81, 3) := by decide +kernel
theorem dX5_ofPoint_6 : decode cX5_ofPoint 6 = .ok (.ifCond .ne 5, 3) := by decide +kernel
theorem dX5_ofPoint_9 : decode cX5_ofPoint 9 = .ok (.iconst (-1), 1) := by decide +kernel
theorem dX5_ofPoint_10 : decode cX5_ofPoint 10 = .ok (.ireturn, 1) := by decide +kernel
theorem dX5_ofPoint_11 : decode cX5_ofPoint 11 = .ok (.bipush 7, 2) := by decide +kernel
theorem dX5_ofPoint_13 : decode cX5_ofPoint 13 = .ok (.iload_n 1, 1) := by decide +kernel
theorem dX5_ofPoint_14 : decode cX5_ofPoint 14 = .ok (.imul, 1) := by decide +kernel
theorem dX5_ofPoint_15 : decode cX5_ofPoint 15 = .ok (.iload_n 2, 1) := by decide +kernel
theorem dX5_ofPoint_16 : decode cX5_ofPoint 16 = .ok (.iadd, 1) := by decide +kernel
theorem dX5_ofPoint_17 : decode cX5_ofPoint 17 = .ok (.istore 4, 2) := by decide +kernel
theorem dX5_ofPoint_19 : decode cX5_ofPoint 19 = .ok (.iload_n 3, 1) := by decide +kernel
theorem dX5_ofPoint_20 : decode cX5_ofPoint 20 = .ok (.tableswitch 68 0 2 #[28, 36, 52], 28) := by decide +kernel
theorem dX5_ofPoint_48 : decode cX5_ofPoint 48 = .ok (.aload_n 0, 1) := by decide +kernel
theorem dX5_ofPoint_49 : decode cX5_ofPoint 49 = .ok (.getfield 22, 3) := by decide +kernel
theorem dX5_ofPoint_52 : decode cX5_ofPoint 52 = .ok (.iload 4, 2) := by decide +kernel
theorem dX5_ofPoint_54 : decode cX5_ofPoint 54 = .ok (.iaload, 1) := by decide +kernel
theorem dX5_ofPoint_55 : decode cX5_ofPoint 55 = .ok (.ireturn, 1) := by decide +kernel
theorem dX5_ofPoint_56 : decode cX5_ofPoint 56 = .ok (.aload_n 0, 1) := by decide +kernel
theorem dX5_ofPoint_57 : decode cX5_ofPoint 57 = .ok (.getfield 29, 3) := by decide +kernel
theorem dX5_ofPoint_60 : decode cX5_ofPoint 60 = .ok (.iload 4, 2) := by decide +kernel
theorem dX5_ofPoint_62 : decode cX5_ofPoint 62 = .ok (.baload, 1) := by decide +kernel
theorem dX5_ofPoint_63 : decode cX5_ofPoint 63 = .ok (.ifCond .eq 7, 3) := by decide +kernel
theorem dX5_ofPoint_66 : decode cX5_ofPoint 66 = .ok (.iconst 1, 1) := by decide +kernel
theorem dX5_ofPoint_67 : decode cX5_ofPoint 67 = .ok (.goto 4, 3) := by decide +kernel
theorem dX5_ofPoint_70 : decode cX5_ofPoint 70 = .ok (.iconst 0, 1) := by decide +kernel
theorem dX5_ofPoint_71 : decode cX5_ofPoint 71 = .ok (.ireturn, 1) := by decide +kernel
theorem dX5_ofPoint_72 : decode cX5_ofPoint 72 = .ok (.aload_n 0, 1) := by decide +kernel
theorem dX5_ofPoint_73 : decode cX5_ofPoint 73 = .ok (.getfield 22, 3) := by decide +kernel
theorem dX5_ofPoint_76 : decode cX5_ofPoint 76 = .ok (.iload 4, 2) := by decide +kernel
theorem dX5_ofPoint_78 : decode cX5_ofPoint 78 = .ok (.iaload, 1) := by decide +kernel
theorem dX5_ofPoint_79 : decode cX5_ofPoint 79 = .ok (.aload_n 0, 1) := by decide +kernel
theorem dX5_ofPoint_80 : decode cX5_ofPoint 80 = .ok (.getfield 26, 3) := by decide +kernel
theorem dX5_ofPoint_83 : decode cX5_ofPoint 83 = .ok (.iload 4, 2) := by decide +kernel
theorem dX5_ofPoint_85 : decode cX5_ofPoint 85 = .ok (.iaload, 1) := by decide +kernel
theorem dX5_ofPoint_86 : decode cX5_ofPoint 86 = .ok (.isub, 1) := by decide +kernel
theorem dX5_ofPoint_87 : decode cX5_ofPoint 87 = .ok (.ireturn, 1) := by decide +kernel
theorem dX5_ofPoint_88 : decode cX5_ofPoint 88 = .ok (.bipush (-2), 2) := by decide +kernel
theorem dX5_ofPoint_90 : decode cX5_ofPoint 90 = .ok (.ireturn, 1) := by decide +kernel
theorem dX5_isView_0 : decode cX5_isView 0 = .ok (.iload_n 0, 1) := by decide +kernel
theorem dX5_isView_1 : decode cX5_isView 1 = .ok (.ifCond .eq 8, 3) := by decide +kernel
theorem dX5_isView_4 : decode cX5_isView 4 = .ok (.iload_n 0, 1) := by decide +kernel
theorem dX5_isView_5 : decode cX5_isView 5 = .ok (.iconst 1, 1) := by decide +kernel
theorem dX5_isView_6 : decode cX5_isView 6 = .ok (.if_icmp .ne 7, 3) := by decide +kernel
theorem dX5_isView_9 : decode cX5_isView 9 = .ok (.iconst 1, 1) := by decide +kernel
theorem dX5_isView_10 : decode cX5_isView 10 = .ok (.goto 4, 3) := by decide +kernel
theorem dX5_isView_13 : decode cX5_isView 13 = .ok (.iconst 0, 1) := by decide +kernel
theorem dX5_isView_14 : decode cX5_isView 14 = .ok (.ireturn, 1) := by decide +kernel
theorem dX5_linesOf_0 : decode cX5_linesOf 0 = .ok (.iload_n 1, 1) := by decide +kernel
theorem dX5_linesOf_1 : decode cX5_linesOf 1 = .ok (.ifCond .ne 10, 3) := by decide +kernel
theorem dX5_linesOf_4 : decode cX5_linesOf 4 = .ok (.aload_n 0, 1) := by decide +kernel
theorem dX5_linesOf_5 : decode cX5_linesOf 5 = .ok (.getfield 64, 3) := by decide +kernel
theorem dX5_linesOf_8 : decode cX5_linesOf 8 = .ok (.goto 7, 3) := by decide +kernel
theorem dX5_linesOf_11 : decode cX5_linesOf 11 = .ok (.aload_n 0, 1) := by decide +kernel
theorem dX5_linesOf_12 : decode cX5_linesOf 12 = .ok (.getfield 61, 3) := by decide +kernel
theorem dX5_linesOf_15 : decode cX5_linesOf 15 = .ok (.ireturn, 1) := by decide +kernel
theorem dX5_isLine_0 : decode cX5_isLine 0 = .ok (.iload_n 2, 1) := by decide +kernel
theorem dX5_isLine_1 : decode cX5_isLine 1 = .ok (.i2l, 1) := by decide +kernel
theorem dX5_isLine_2 : decode cX5_isLine 2 = .ok (.lconst 0, 1) := by decide +kernel
theorem dX5_isLine_3 : decode cX5_isLine 3 = .ok (.aload_n 0, 1) := by decide +kernel
theorem dX5_isLine_4 : decode cX5_isLine 4 = .ok (.iload_n 1, 1) := by decide +kernel
theorem dX5_isLine_5 : decode cX5_isLine 5 = .ok (.invokevirtual 93, 3) := by decide +kernel
theorem dX5_isLine_8 : decode cX5_isLine 8 = .ok (.iconst 1, 1) := by decide +kernel
theorem dX5_isLine_9 : decode cX5_isLine 9 = .ok (.isub, 1) := by decide +kernel
theorem dX5_isLine_10 : decode cX5_isLine 10 = .ok (.i2l, 1) := by decide +kernel
theorem dX5_isLine_11 : decode cX5_isLine 11 = .ok (.invokestatic 67, 3) := by decide +kernel
theorem dX5_isLine_14 : decode cX5_isLine 14 = .ok (.ireturn, 1) := by decide +kernel
theorem dX5_lays_0 : decode cX5_lays 0 = .ok (.aload_n 0, 1) := by decide +kernel
theorem dX5_lays_1 : decode cX5_lays 1 = .ok (.iload_n 1, 1) := by decide +kernel
theorem dX5_lays_2 : decode cX5_lays 2 = .ok (.ifCond .ne 10, 3) := by decide +kernel
theorem dX5_lays_5 : decode cX5_lays 5 = .ok (.aload_n 0, 1) := by decide +kernel
theorem dX5_lays_6 : decode cX5_lays 6 = .ok (.getfield 61, 3) := by decide +kernel
theorem dX5_lays_9 : decode cX5_lays 9 = .ok (.goto 7, 3) := by decide +kernel
theorem dX5_lays_12 : decode cX5_lays 12 = .ok (.aload_n 0, 1) := by decide +kernel
theorem dX5_lays_13 : decode cX5_lays 13 = .ok (.getfield 64, 3) := by decide +kernel
theorem dX5_lays_16 : decode cX5_lays 16 = .ok (.putfield 97, 3) := by decide +kernel
theorem dX5_lays_19 : decode cX5_lays 19 = .ok (.iconst 0, 1) := by decide +kernel
theorem dX5_lays_20 : decode cX5_lays 20 = .ok (.istore_n 3, 1) := by decide +kernel
theorem dX5_lays_21 : decode cX5_lays 21 = .ok (.iload_n 3, 1) := by decide +kernel
theorem dX5_lays_22 : decode cX5_lays 22 = .ok (.aload_n 0, 1) := by decide +kernel
theorem dX5_lays_23 : decode cX5_lays 23 = .ok (.getfield 97, 3) := by decide +kernel
theorem dX5_lays_26 : decode cX5_lays 26 = .ok (.if_icmp .ge 51, 3) := by decide +kernel
theorem dX5_lays_29 : decode cX5_lays 29 = .ok (.aload_n 0, 1) := by decide +kernel
theorem dX5_lays_30 : decode cX5_lays 30 = .ok (.getfield 33, 3) := by decide +kernel
theorem dX5_lays_33 : decode cX5_lays 33 = .ok (.iload_n 3, 1) := by decide +kernel
theorem dX5_lays_34 : decode cX5_lays 34 = .ok (.iload_n 1, 1) := by decide +kernel
theorem dX5_lays_35 : decode cX5_lays 35 = .ok (.ifCond .ne 12, 3) := by decide +kernel
theorem dX5_lays_38 : decode cX5_lays 38 = .ok (.bipush 7, 2) := by decide +kernel
theorem dX5_lays_40 : decode cX5_lays 40 = .ok (.iload_n 3, 1) := by decide +kernel
theorem dX5_lays_41 : decode cX5_lays 41 = .ok (.imul, 1) := by decide +kernel
theorem dX5_lays_42 : decode cX5_lays 42 = .ok (.iload_n 2, 1) := by decide +kernel
theorem dX5_lays_43 : decode cX5_lays 43 = .ok (.iadd, 1) := by decide +kernel
theorem dX5_lays_44 : decode cX5_lays 44 = .ok (.goto 9, 3) := by decide +kernel
theorem dX5_lays_47 : decode cX5_lays 47 = .ok (.bipush 7, 2) := by decide +kernel
theorem dX5_lays_49 : decode cX5_lays 49 = .ok (.iload_n 2, 1) := by decide +kernel
theorem dX5_lays_50 : decode cX5_lays 50 = .ok (.imul, 1) := by decide +kernel
theorem dX5_lays_51 : decode cX5_lays 51 = .ok (.iload_n 3, 1) := by decide +kernel
theorem dX5_lays_52 : decode cX5_lays 52 = .ok (.iadd, 1) := by decide +kernel
theorem dX5_lays_53 : decode cX5_lays 53 = .ok (.iastore, 1) := by decide +kernel
theorem dX5_lays_54 : decode cX5_lays 54 = .ok (.aload_n 0, 1) := by decide +kernel
theorem dX5_lays_55 : decode cX5_lays 55 = .ok (.getfield 36, 3) := by decide +kernel
theorem dX5_lays_58 : decode cX5_lays 58 = .ok (.iload_n 3, 1) := by decide +kernel
theorem dX5_lays_59 : decode cX5_lays 59 = .ok (.aload_n 0, 1) := by decide +kernel
theorem dX5_lays_60 : decode cX5_lays 60 = .ok (.getfield 22, 3) := by decide +kernel
theorem dX5_lays_63 : decode cX5_lays 63 = .ok (.aload_n 0, 1) := by decide +kernel
theorem dX5_lays_64 : decode cX5_lays 64 = .ok (.getfield 33, 3) := by decide +kernel
theorem dX5_lays_67 : decode cX5_lays 67 = .ok (.iload_n 3, 1) := by decide +kernel
theorem dX5_lays_68 : decode cX5_lays 68 = .ok (.iaload, 1) := by decide +kernel
theorem dX5_lays_69 : decode cX5_lays 69 = .ok (.iaload, 1) := by decide +kernel
theorem dX5_lays_70 : decode cX5_lays 70 = .ok (.iastore, 1) := by decide +kernel
theorem dX5_lays_71 : decode cX5_lays 71 = .ok (.iinc 3 1, 3) := by decide +kernel
theorem dX5_lays_74 : decode cX5_lays 74 = .ok (.goto (-53), 3) := by decide +kernel
theorem dX5_lays_77 : decode cX5_lays 77 = .ok (.return_, 1) := by decide +kernel
theorem dX5_bendAt_0 : decode cX5_bendAt 0 = .ok (.aload_n 0, 1) := by decide +kernel
theorem dX5_bendAt_1 : decode cX5_bendAt 1 = .ok (.getfield 36, 3) := by decide +kernel
theorem dX5_bendAt_4 : decode cX5_bendAt 4 = .ok (.iload_n 1, 1) := by decide +kernel
theorem dX5_bendAt_5 : decode cX5_bendAt 5 = .ok (.iconst 1, 1) := by decide +kernel
theorem dX5_bendAt_6 : decode cX5_bendAt 6 = .ok (.isub, 1) := by decide +kernel
theorem dX5_bendAt_7 : decode cX5_bendAt 7 = .ok (.iaload, 1) := by decide +kernel
theorem dX5_bendAt_8 : decode cX5_bendAt 8 = .ok (.aload_n 0, 1) := by decide +kernel
theorem dX5_bendAt_9 : decode cX5_bendAt 9 = .ok (.getfield 36, 3) := by decide +kernel
theorem dX5_bendAt_12 : decode cX5_bendAt 12 = .ok (.iload_n 1, 1) := by decide +kernel
theorem dX5_bendAt_13 : decode cX5_bendAt 13 = .ok (.iconst 1, 1) := by decide +kernel
theorem dX5_bendAt_14 : decode cX5_bendAt 14 = .ok (.iadd, 1) := by decide +kernel
theorem dX5_bendAt_15 : decode cX5_bendAt 15 = .ok (.iaload, 1) := by decide +kernel
theorem dX5_bendAt_16 : decode cX5_bendAt 16 = .ok (.iadd, 1) := by decide +kernel
theorem dX5_bendAt_17 : decode cX5_bendAt 17 = .ok (.iconst 2, 1) := by decide +kernel
theorem dX5_bendAt_18 : decode cX5_bendAt 18 = .ok (.aload_n 0, 1) := by decide +kernel
theorem dX5_bendAt_19 : decode cX5_bendAt 19 = .ok (.getfield 36, 3) := by decide +kernel
theorem dX5_bendAt_22 : decode cX5_bendAt 22 = .ok (.iload_n 1, 1) := by decide +kernel
theorem dX5_bendAt_23 : decode cX5_bendAt 23 = .ok (.iaload, 1) := by decide +kernel
theorem dX5_bendAt_24 : decode cX5_bendAt 24 = .ok (.imul, 1) := by decide +kernel
theorem dX5_bendAt_25 : decode cX5_bendAt 25 = .ok (.isub, 1) := by decide +kernel
theorem dX5_bendAt_26 : decode cX5_bendAt 26 = .ok (.ireturn, 1) := by decide +kernel
theorem dX5_jumpAt_0 : decode cX5_jumpAt 0 = .ok (.aload_n 0, 1) := by decide +kernel
theorem dX5_jumpAt_1 : decode cX5_jumpAt 1 = .ok (.iload_n 1, 1) := by decide +kernel
theorem dX5_jumpAt_2 : decode cX5_jumpAt 2 = .ok (.iconst 1, 1) := by decide +kernel
theorem dX5_jumpAt_3 : decode cX5_jumpAt 3 = .ok (.iadd, 1) := by decide +kernel
theorem dX5_jumpAt_4 : decode cX5_jumpAt 4 = .ok (.invokevirtual 100, 3) := by decide +kernel
theorem dX5_jumpAt_7 : decode cX5_jumpAt 7 = .ok (.aload_n 0, 1) := by decide +kernel
theorem dX5_jumpAt_8 : decode cX5_jumpAt 8 = .ok (.iload_n 1, 1) := by decide +kernel
theorem dX5_jumpAt_9 : decode cX5_jumpAt 9 = .ok (.invokevirtual 100, 3) := by decide +kernel
theorem dX5_jumpAt_12 : decode cX5_jumpAt 12 = .ok (.isub, 1) := by decide +kernel
theorem dX5_jumpAt_13 : decode cX5_jumpAt 13 = .ok (.ireturn, 1) := by decide +kernel
theorem dX5_barred_0 : decode cX5_barred 0 = .ok (.iload_n 1, 1) := by decide +kernel
theorem dX5_barred_1 : decode cX5_barred 1 = .ok (.invokestatic 103, 3) := by decide +kernel
theorem dX5_barred_4 : decode cX5_barred 4 = .ok (.ifCond .ne 6, 3) := by decide +kernel
theorem dX5_barred_7 : decode cX5_barred 7 = .ok (.bipush (-2), 2) := by decide +kernel
theorem dX5_barred_9 : decode cX5_barred 9 = .ok (.ireturn, 1) := by decide +kernel
theorem dX5_barred_10 : decode cX5_barred 10 = .ok (.aload_n 0, 1) := by decide +kernel
theorem dX5_barred_11 : decode cX5_barred 11 = .ok (.iload_n 1, 1) := by decide +kernel
theorem dX5_barred_12 : decode cX5_barred 12 = .ok (.iload_n 2, 1) := by decide +kernel
theorem dX5_barred_13 : decode cX5_barred 13 = .ok (.invokevirtual 106, 3) := by decide +kernel
theorem dX5_barred_16 : decode cX5_barred 16 = .ok (.ifCond .ne 5, 3) := by decide +kernel
theorem dX5_barred_19 : decode cX5_barred 19 = .ok (.iconst (-1), 1) := by decide +kernel
theorem dX5_barred_20 : decode cX5_barred 20 = .ok (.ireturn, 1) := by decide +kernel
theorem dX5_barred_21 : decode cX5_barred 21 = .ok (.aload_n 0, 1) := by decide +kernel
theorem dX5_barred_22 : decode cX5_barred 22 = .ok (.iload_n 1, 1) := by decide +kernel
theorem dX5_barred_23 : decode cX5_barred 23 = .ok (.iload_n 2, 1) := by decide +kernel
theorem dX5_barred_24 : decode cX5_barred 24 = .ok (.invokevirtual 109, 3) := by decide +kernel
theorem dX5_barred_27 : decode cX5_barred 27 = .ok (.iload_n 3, 1) := by decide +kernel
theorem dX5_barred_28 : decode cX5_barred 28 = .ok (.i2l, 1) := by decide +kernel
theorem dX5_barred_29 : decode cX5_barred 29 = .ok (.lconst 1, 1) := by decide +kernel
theorem dX5_barred_30 : decode cX5_barred 30 = .ok (.aload_n 0, 1) := by decide +kernel
theorem dX5_barred_31 : decode cX5_barred 31 = .ok (.getfield 97, 3) := by decide +kernel
theorem dX5_barred_34 : decode cX5_barred 34 = .ok (.iload 4, 2) := by decide +kernel
theorem dX5_barred_36 : decode cX5_barred 36 = .ok (.isub, 1) := by decide +kernel
theorem dX5_barred_37 : decode cX5_barred 37 = .ok (.i2l, 1) := by decide +kernel
theorem dX5_barred_38 : decode cX5_barred 38 = .ok (.invokestatic 67, 3) := by decide +kernel
theorem dX5_barred_41 : decode cX5_barred 41 = .ok (.ifCond .eq 7, 3) := by decide +kernel
theorem dX5_barred_44 : decode cX5_barred 44 = .ok (.iconst 0, 1) := by decide +kernel
theorem dX5_barred_45 : decode cX5_barred 45 = .ok (.goto 5, 3) := by decide +kernel
theorem dX5_barred_48 : decode cX5_barred 48 = .ok (.bipush (-2), 2) := by decide +kernel
theorem dX5_barred_50 : decode cX5_barred 50 = .ok (.ireturn, 1) := by decide +kernel
theorem dX5_bend_0 : decode cX5_bend 0 = .ok (.aload_n 0, 1) := by decide +kernel
theorem dX5_bend_1 : decode cX5_bend 1 = .ok (.iload_n 1, 1) := by decide +kernel
theorem dX5_bend_2 : decode cX5_bend 2 = .ok (.iload_n 2, 1) := by decide +kernel
theorem dX5_bend_3 : decode cX5_bend 3 = .ok (.iload_n 3, 1) := by decide +kernel
theorem dX5_bend_4 : decode cX5_bend 4 = .ok (.iconst 2, 1) := by decide +kernel
theorem dX5_bend_5 : decode cX5_bend 5 = .ok (.invokevirtual 113, 3) := by decide +kernel
theorem dX5_bend_8 : decode cX5_bend 8 = .ok (.istore 4, 2) := by decide +kernel
theorem dX5_bend_10 : decode cX5_bend 10 = .ok (.iload 4, 2) := by decide +kernel
theorem dX5_bend_12 : decode cX5_bend 12 = .ok (.ifCond .ge 8, 3) := by decide +kernel
theorem dX5_bend_15 : decode cX5_bend 15 = .ok (.iload 4, 2) := by decide +kernel
theorem dX5_bend_17 : decode cX5_bend 17 = .ok (.goto 8, 3) := by decide +kernel
theorem dX5_bend_20 : decode cX5_bend 20 = .ok (.aload_n 0, 1) := by decide +kernel
theorem dX5_bend_21 : decode cX5_bend 21 = .ok (.iload_n 3, 1) := by decide +kernel
theorem dX5_bend_22 : decode cX5_bend 22 = .ok (.invokevirtual 100, 3) := by decide +kernel
theorem dX5_bend_25 : decode cX5_bend 25 = .ok (.ireturn, 1) := by decide +kernel
theorem dX5_jump_0 : decode cX5_jump 0 = .ok (.aload_n 0, 1) := by decide +kernel
theorem dX5_jump_1 : decode cX5_jump 1 = .ok (.iload_n 1, 1) := by decide +kernel
theorem dX5_jump_2 : decode cX5_jump 2 = .ok (.iload_n 2, 1) := by decide +kernel
theorem dX5_jump_3 : decode cX5_jump 3 = .ok (.iload_n 3, 1) := by decide +kernel
theorem dX5_jump_4 : decode cX5_jump 4 = .ok (.iconst 3, 1) := by decide +kernel
theorem dX5_jump_5 : decode cX5_jump 5 = .ok (.invokevirtual 113, 3) := by decide +kernel
theorem dX5_jump_8 : decode cX5_jump 8 = .ok (.istore 4, 2) := by decide +kernel
theorem dX5_jump_10 : decode cX5_jump 10 = .ok (.iload 4, 2) := by decide +kernel
theorem dX5_jump_12 : decode cX5_jump 12 = .ok (.ifCond .ge 8, 3) := by decide +kernel
theorem dX5_jump_15 : decode cX5_jump 15 = .ok (.iload 4, 2) := by decide +kernel
theorem dX5_jump_17 : decode cX5_jump 17 = .ok (.goto 8, 3) := by decide +kernel
theorem dX5_jump_20 : decode cX5_jump 20 = .ok (.aload_n 0, 1) := by decide +kernel
theorem dX5_jump_21 : decode cX5_jump 21 = .ok (.iload_n 3, 1) := by decide +kernel
theorem dX5_jump_22 : decode cX5_jump 22 = .ok (.invokevirtual 117, 3) := by decide +kernel
theorem dX5_jump_25 : decode cX5_jump 25 = .ok (.ireturn, 1) := by decide +kernel
theorem dX5_roughest_0 : decode cX5_roughest 0 = .ok (.iload_n 1, 1) := by decide +kernel
theorem dX5_roughest_1 : decode cX5_roughest 1 = .ok (.i2l, 1) := by decide +kernel
theorem dX5_roughest_2 : decode cX5_roughest 2 = .ok (.lconst 0, 1) := by decide +kernel
theorem dX5_roughest_3 : decode cX5_roughest 3 = .ok (.ldc2_w 89, 3) := by decide +kernel
theorem dX5_roughest_6 : decode cX5_roughest 6 = .ok (.invokestatic 67, 3) := by decide +kernel
theorem dX5_roughest_9 : decode cX5_roughest 9 = .ok (.ifCond .ne 6, 3) := by decide +kernel
theorem dX5_roughest_12 : decode cX5_roughest 12 = .ok (.bipush (-2), 2) := by decide +kernel
theorem dX5_roughest_14 : decode cX5_roughest 14 = .ok (.ireturn, 1) := by decide +kernel
theorem dX5_roughest_15 : decode cX5_roughest 15 = .ok (.iconst (-1), 1) := by decide +kernel
theorem dX5_roughest_16 : decode cX5_roughest 16 = .ok (.istore_n 2, 1) := by decide +kernel
theorem dX5_roughest_17 : decode cX5_roughest 17 = .ok (.iconst 0, 1) := by decide +kernel
theorem dX5_roughest_18 : decode cX5_roughest 18 = .ok (.istore_n 3, 1) := by decide +kernel
theorem dX5_roughest_19 : decode cX5_roughest 19 = .ok (.iconst 0, 1) := by decide +kernel
theorem dX5_roughest_20 : decode cX5_roughest 20 = .ok (.istore 4, 2) := by decide +kernel
theorem dX5_roughest_22 : decode cX5_roughest 22 = .ok (.iload 4, 2) := by decide +kernel
theorem dX5_roughest_24 : decode cX5_roughest 24 = .ok (.iconst 2, 1) := by decide +kernel
theorem dX5_roughest_25 : decode cX5_roughest 25 = .ok (.if_icmp .ge 120, 3) := by decide +kernel
theorem dX5_roughest_28 : decode cX5_roughest 28 = .ok (.iconst 0, 1) := by decide +kernel
theorem dX5_roughest_29 : decode cX5_roughest 29 = .ok (.istore 5, 2) := by decide +kernel
theorem dX5_roughest_31 : decode cX5_roughest 31 = .ok (.iload 5, 2) := by decide +kernel
theorem dX5_roughest_33 : decode cX5_roughest 33 = .ok (.aload_n 0, 1) := by decide +kernel
theorem dX5_roughest_34 : decode cX5_roughest 34 = .ok (.iload 4, 2) := by decide +kernel
theorem dX5_roughest_36 : decode cX5_roughest 36 = .ok (.invokevirtual 93, 3) := by decide +kernel
theorem dX5_roughest_39 : decode cX5_roughest 39 = .ok (.if_icmp .ge 100, 3) := by decide +kernel
theorem dX5_roughest_42 : decode cX5_roughest 42 = .ok (.aload_n 0, 1) := by decide +kernel
theorem dX5_roughest_43 : decode cX5_roughest 43 = .ok (.iload 4, 2) := by decide +kernel
theorem dX5_roughest_45 : decode cX5_roughest 45 = .ok (.iload 5, 2) := by decide +kernel
theorem dX5_roughest_47 : decode cX5_roughest 47 = .ok (.invokevirtual 109, 3) := by decide +kernel
theorem dX5_roughest_50 : decode cX5_roughest 50 = .ok (.iconst 1, 1) := by decide +kernel
theorem dX5_roughest_51 : decode cX5_roughest 51 = .ok (.istore 6, 2) := by decide +kernel
theorem dX5_roughest_53 : decode cX5_roughest 53 = .ok (.iload 6, 2) := by decide +kernel
theorem dX5_roughest_55 : decode cX5_roughest 55 = .ok (.aload_n 0, 1) := by decide +kernel
theorem dX5_roughest_56 : decode cX5_roughest 56 = .ok (.getfield 97, 3) := by decide +kernel
theorem dX5_roughest_59 : decode cX5_roughest 59 = .ok (.iconst 2, 1) := by decide +kernel
theorem dX5_roughest_60 : decode cX5_roughest 60 = .ok (.isub, 1) := by decide +kernel
theorem dX5_roughest_61 : decode cX5_roughest 61 = .ok (.if_icmp .ge 72, 3) := by decide +kernel
theorem dX5_roughest_64 : decode cX5_roughest 64 = .ok (.aload_n 0, 1) := by decide +kernel
theorem dX5_roughest_65 : decode cX5_roughest 65 = .ok (.iload 6, 2) := by decide +kernel
theorem dX5_roughest_67 : decode cX5_roughest 67 = .ok (.invokevirtual 117, 3) := by decide +kernel
theorem dX5_roughest_70 : decode cX5_roughest 70 = .ok (.invokestatic 120, 3) := by decide +kernel
theorem dX5_roughest_73 : decode cX5_roughest 73 = .ok (.iload_n 2, 1) := by decide +kernel
theorem dX5_roughest_74 : decode cX5_roughest 74 = .ok (.if_icmp .le 7, 3) := by decide +kernel
theorem dX5_roughest_77 : decode cX5_roughest 77 = .ok (.iconst 1, 1) := by decide +kernel
theorem dX5_roughest_78 : decode cX5_roughest 78 = .ok (.goto 4, 3) := by decide +kernel
theorem dX5_roughest_81 : decode cX5_roughest 81 = .ok (.iconst 0, 1) := by decide +kernel
theorem dX5_roughest_82 : decode cX5_roughest 82 = .ok (.istore 7, 2) := by decide +kernel
theorem dX5_roughest_84 : decode cX5_roughest 84 = .ok (.iload 7, 2) := by decide +kernel
theorem dX5_roughest_86 : decode cX5_roughest 86 = .ok (.ifCond .eq 15, 3) := by decide +kernel
theorem dX5_roughest_89 : decode cX5_roughest 89 = .ok (.aload_n 0, 1) := by decide +kernel
theorem dX5_roughest_90 : decode cX5_roughest 90 = .ok (.iload 6, 2) := by decide +kernel
theorem dX5_roughest_92 : decode cX5_roughest 92 = .ok (.invokevirtual 117, 3) := by decide +kernel
theorem dX5_roughest_95 : decode cX5_roughest 95 = .ok (.invokestatic 120, 3) := by decide +kernel
theorem dX5_roughest_98 : decode cX5_roughest 98 = .ok (.goto 4, 3) := by decide +kernel
theorem dX5_roughest_101 : decode cX5_roughest 101 = .ok (.iload_n 2, 1) := by decide +kernel
theorem dX5_roughest_102 : decode cX5_roughest 102 = .ok (.istore_n 2, 1) := by decide +kernel
theorem dX5_roughest_103 : decode cX5_roughest 103 = .ok (.iload 7, 2) := by decide +kernel
theorem dX5_roughest_105 : decode cX5_roughest 105 = .ok (.ifCond .eq 20, 3) := by decide +kernel
theorem dX5_roughest_108 : decode cX5_roughest 108 = .ok (.bipush 100, 2) := by decide +kernel
theorem dX5_roughest_110 : decode cX5_roughest 110 = .ok (.iload 4, 2) := by decide +kernel
theorem dX5_roughest_112 : decode cX5_roughest 112 = .ok (.imul, 1) := by decide +kernel
theorem dX5_roughest_113 : decode cX5_roughest 113 = .ok (.bipush 10, 2) := by decide +kernel
theorem dX5_roughest_115 : decode cX5_roughest 115 = .ok (.iload 5, 2) := by decide +kernel
theorem dX5_roughest_117 : decode cX5_roughest 117 = .ok (.imul, 1) := by decide +kernel
theorem dX5_roughest_118 : decode cX5_roughest 118 = .ok (.iadd, 1) := by decide +kernel
theorem dX5_roughest_119 : decode cX5_roughest 119 = .ok (.iload 6, 2) := by decide +kernel
theorem dX5_roughest_121 : decode cX5_roughest 121 = .ok (.iadd, 1) := by decide +kernel
theorem dX5_roughest_122 : decode cX5_roughest 122 = .ok (.goto 4, 3) := by decide +kernel
theorem dX5_roughest_125 : decode cX5_roughest 125 = .ok (.iload_n 3, 1) := by decide +kernel
theorem dX5_roughest_126 : decode cX5_roughest 126 = .ok (.istore_n 3, 1) := by decide +kernel
theorem dX5_roughest_127 : decode cX5_roughest 127 = .ok (.iinc 6 1, 3) := by decide +kernel
theorem dX5_roughest_130 : decode cX5_roughest 130 = .ok (.goto (-77), 3) := by decide +kernel
theorem dX5_roughest_133 : decode cX5_roughest 133 = .ok (.iinc 5 1, 3) := by decide +kernel
theorem dX5_roughest_136 : decode cX5_roughest 136 = .ok (.goto (-105), 3) := by decide +kernel
theorem dX5_roughest_139 : decode cX5_roughest 139 = .ok (.iinc 4 1, 3) := by decide +kernel
theorem dX5_roughest_142 : decode cX5_roughest 142 = .ok (.goto (-120), 3) := by decide +kernel
theorem dX5_roughest_145 : decode cX5_roughest 145 = .ok (.iload_n 1, 1) := by decide +kernel
theorem dX5_roughest_146 : decode cX5_roughest 146 = .ok (.ifCond .ne 7, 3) := by decide +kernel
theorem dX5_roughest_149 : decode cX5_roughest 149 = .ok (.iload_n 2, 1) := by decide +kernel
theorem dX5_roughest_150 : decode cX5_roughest 150 = .ok (.goto 34, 3) := by decide +kernel
theorem dX5_roughest_153 : decode cX5_roughest 153 = .ok (.iload_n 1, 1) := by decide +kernel
theorem dX5_roughest_154 : decode cX5_roughest 154 = .ok (.iconst 1, 1) := by decide +kernel
theorem dX5_roughest_155 : decode cX5_roughest 155 = .ok (.if_icmp .ne 10, 3) := by decide +kernel
theorem dX5_roughest_158 : decode cX5_roughest 158 = .ok (.iload_n 3, 1) := by decide +kernel
theorem dX5_roughest_159 : decode cX5_roughest 159 = .ok (.bipush 100, 2) := by decide +kernel
theorem dX5_roughest_161 : decode cX5_roughest 161 = .ok (.idiv, 1) := by decide +kernel
theorem dX5_roughest_162 : decode cX5_roughest 162 = .ok (.goto 22, 3) := by decide +kernel
theorem dX5_roughest_165 : decode cX5_roughest 165 = .ok (.iload_n 1, 1) := by decide +kernel
theorem dX5_roughest_166 : decode cX5_roughest 166 = .ok (.iconst 2, 1) := by decide +kernel
theorem dX5_roughest_167 : decode cX5_roughest 167 = .ok (.if_icmp .ne 13, 3) := by decide +kernel
theorem dX5_roughest_170 : decode cX5_roughest 170 = .ok (.iload_n 3, 1) := by decide +kernel
theorem dX5_roughest_171 : decode cX5_roughest 171 = .ok (.bipush 10, 2) := by decide +kernel
theorem dX5_roughest_173 : decode cX5_roughest 173 = .ok (.idiv, 1) := by decide +kernel
theorem dX5_roughest_174 : decode cX5_roughest 174 = .ok (.bipush 10, 2) := by decide +kernel
theorem dX5_roughest_176 : decode cX5_roughest 176 = .ok (.irem, 1) := by decide +kernel
theorem dX5_roughest_177 : decode cX5_roughest 177 = .ok (.goto 7, 3) := by decide +kernel
theorem dX5_roughest_180 : decode cX5_roughest 180 = .ok (.iload_n 3, 1) := by decide +kernel
theorem dX5_roughest_181 : decode cX5_roughest 181 = .ok (.bipush 10, 2) := by decide +kernel
theorem dX5_roughest_183 : decode cX5_roughest 183 = .ok (.irem, 1) := by decide +kernel
theorem dX5_roughest_184 : decode cX5_roughest 184 = .ok (.ireturn, 1) := by decide +kernel
theorem dX5_roughNow_0 : decode cX5_roughNow 0 = .ok (.iconst 0, 1) := by decide +kernel
theorem dX5_roughNow_1 : decode cX5_roughNow 1 = .ok (.istore_n 1, 1) := by decide +kernel
theorem dX5_roughNow_2 : decode cX5_roughNow 2 = .ok (.iconst 1, 1) := by decide +kernel
theorem dX5_roughNow_3 : decode cX5_roughNow 3 = .ok (.istore_n 2, 1) := by decide +kernel
theorem dX5_roughNow_4 : decode cX5_roughNow 4 = .ok (.iload_n 2, 1) := by decide +kernel
theorem dX5_roughNow_5 : decode cX5_roughNow 5 = .ok (.aload_n 0, 1) := by decide +kernel
theorem dX5_roughNow_6 : decode cX5_roughNow 6 = .ok (.getfield 97, 3) := by decide +kernel
theorem dX5_roughNow_9 : decode cX5_roughNow 9 = .ok (.iconst 2, 1) := by decide +kernel
theorem dX5_roughNow_10 : decode cX5_roughNow 10 = .ok (.isub, 1) := by decide +kernel
theorem dX5_roughNow_11 : decode cX5_roughNow 11 = .ok (.if_icmp .ge 32, 3) := by decide +kernel
theorem dX5_roughNow_14 : decode cX5_roughNow 14 = .ok (.iload_n 1, 1) := by decide +kernel
theorem dX5_roughNow_15 : decode cX5_roughNow 15 = .ok (.aload_n 0, 1) := by decide +kernel
theorem dX5_roughNow_16 : decode cX5_roughNow 16 = .ok (.iload_n 2, 1) := by decide +kernel
theorem dX5_roughNow_17 : decode cX5_roughNow 17 = .ok (.invokevirtual 117, 3) := by decide +kernel
theorem dX5_roughNow_20 : decode cX5_roughNow 20 = .ok (.invokestatic 120, 3) := by decide +kernel
theorem dX5_roughNow_23 : decode cX5_roughNow 23 = .ok (.aload_n 0, 1) := by decide +kernel
theorem dX5_roughNow_24 : decode cX5_roughNow 24 = .ok (.getfield 7, 3) := by decide +kernel
theorem dX5_roughNow_27 : decode cX5_roughNow 27 = .ok (.if_icmp .le 7, 3) := by decide +kernel
theorem dX5_roughNow_30 : decode cX5_roughNow 30 = .ok (.iconst 1, 1) := by decide +kernel
theorem dX5_roughNow_31 : decode cX5_roughNow 31 = .ok (.goto 4, 3) := by decide +kernel
theorem dX5_roughNow_34 : decode cX5_roughNow 34 = .ok (.iconst 0, 1) := by decide +kernel
theorem dX5_roughNow_35 : decode cX5_roughNow 35 = .ok (.iadd, 1) := by decide +kernel
theorem dX5_roughNow_36 : decode cX5_roughNow 36 = .ok (.istore_n 1, 1) := by decide +kernel
theorem dX5_roughNow_37 : decode cX5_roughNow 37 = .ok (.iinc 2 1, 3) := by decide +kernel
theorem dX5_roughNow_40 : decode cX5_roughNow 40 = .ok (.goto (-36), 3) := by decide +kernel
theorem dX5_roughNow_43 : decode cX5_roughNow 43 = .ok (.iload_n 1, 1) := by decide +kernel
theorem dX5_roughNow_44 : decode cX5_roughNow 44 = .ok (.ireturn, 1) := by decide +kernel
theorem dX5_rough_0 : decode cX5_rough 0 = .ok (.iload_n 1, 1) := by decide +kernel
theorem dX5_rough_1 : decode cX5_rough 1 = .ok (.invokestatic 103, 3) := by decide +kernel
theorem dX5_rough_4 : decode cX5_rough 4 = .ok (.ifCond .ne 6, 3) := by decide +kernel
theorem dX5_rough_7 : decode cX5_rough 7 = .ok (.bipush (-2), 2) := by decide +kernel
theorem dX5_rough_9 : decode cX5_rough 9 = .ok (.ireturn, 1) := by decide +kernel
theorem dX5_rough_10 : decode cX5_rough 10 = .ok (.aload_n 0, 1) := by decide +kernel
theorem dX5_rough_11 : decode cX5_rough 11 = .ok (.iload_n 1, 1) := by decide +kernel
theorem dX5_rough_12 : decode cX5_rough 12 = .ok (.iload_n 2, 1) := by decide +kernel
theorem dX5_rough_13 : decode cX5_rough 13 = .ok (.invokevirtual 106, 3) := by decide +kernel
theorem dX5_rough_16 : decode cX5_rough 16 = .ok (.ifCond .ne 5, 3) := by decide +kernel
theorem dX5_rough_19 : decode cX5_rough 19 = .ok (.iconst (-1), 1) := by decide +kernel
theorem dX5_rough_20 : decode cX5_rough 20 = .ok (.ireturn, 1) := by decide +kernel
theorem dX5_rough_21 : decode cX5_rough 21 = .ok (.aload_n 0, 1) := by decide +kernel
theorem dX5_rough_22 : decode cX5_rough 22 = .ok (.iload_n 1, 1) := by decide +kernel
theorem dX5_rough_23 : decode cX5_rough 23 = .ok (.iload_n 2, 1) := by decide +kernel
theorem dX5_rough_24 : decode cX5_rough 24 = .ok (.invokevirtual 109, 3) := by decide +kernel
theorem dX5_rough_27 : decode cX5_rough 27 = .ok (.aload_n 0, 1) := by decide +kernel
theorem dX5_rough_28 : decode cX5_rough 28 = .ok (.invokevirtual 123, 3) := by decide +kernel
theorem dX5_rough_31 : decode cX5_rough 31 = .ok (.ireturn, 1) := by decide +kernel
theorem dX5_may_0 : decode cX5_may 0 = .ok (.iload_n 2, 1) := by decide +kernel
theorem dX5_may_1 : decode cX5_may 1 = .ok (.i2l, 1) := by decide +kernel
theorem dX5_may_2 : decode cX5_may 2 = .ok (.aload_n 0, 1) := by decide +kernel
theorem dX5_may_3 : decode cX5_may 3 = .ok (.getfield 13, 3) := by decide +kernel
theorem dX5_may_6 : decode cX5_may 6 = .ok (.ineg, 1) := by decide +kernel
theorem dX5_may_7 : decode cX5_may 7 = .ok (.i2l, 1) := by decide +kernel
theorem dX5_may_8 : decode cX5_may 8 = .ok (.aload_n 0, 1) := by decide +kernel
theorem dX5_may_9 : decode cX5_may 9 = .ok (.getfield 13, 3) := by decide +kernel
theorem dX5_may_12 : decode cX5_may 12 = .ok (.i2l, 1) := by decide +kernel
theorem dX5_may_13 : decode cX5_may 13 = .ok (.invokestatic 67, 3) := by decide +kernel
theorem dX5_may_16 : decode cX5_may 16 = .ok (.ifCond .eq 39, 3) := by decide +kernel
theorem dX5_may_19 : decode cX5_may 19 = .ok (.iload_n 2, 1) := by decide +kernel
theorem dX5_may_20 : decode cX5_may 20 = .ok (.ifCond .eq 17, 3) := by decide +kernel
theorem dX5_may_23 : decode cX5_may 23 = .ok (.aload_n 0, 1) := by decide +kernel
theorem dX5_may_24 : decode cX5_may 24 = .ok (.getfield 29, 3) := by decide +kernel
theorem dX5_may_27 : decode cX5_may 27 = .ok (.aload_n 0, 1) := by decide +kernel
theorem dX5_may_28 : decode cX5_may 28 = .ok (.getfield 33, 3) := by decide +kernel
theorem dX5_may_31 : decode cX5_may 31 = .ok (.iload_n 1, 1) := by decide +kernel
theorem dX5_may_32 : decode cX5_may 32 = .ok (.iaload, 1) := by decide +kernel
theorem dX5_may_33 : decode cX5_may 33 = .ok (.baload, 1) := by decide +kernel
theorem dX5_may_34 : decode cX5_may 34 = .ok (.ifCond .ne 21, 3) := by decide +kernel
theorem dX5_may_37 : decode cX5_may 37 = .ok (.aload_n 0, 1) := by decide +kernel
theorem dX5_may_38 : decode cX5_may 38 = .ok (.getfield 36, 3) := by decide +kernel
theorem dX5_may_41 : decode cX5_may 41 = .ok (.iload_n 1, 1) := by decide +kernel
theorem dX5_may_42 : decode cX5_may 42 = .ok (.iaload, 1) := by decide +kernel
theorem dX5_may_43 : decode cX5_may 43 = .ok (.iload_n 2, 1) := by decide +kernel
theorem dX5_may_44 : decode cX5_may 44 = .ok (.iadd, 1) := by decide +kernel
theorem dX5_may_45 : decode cX5_may 45 = .ok (.invokestatic 85, 3) := by decide +kernel
theorem dX5_may_48 : decode cX5_may 48 = .ok (.ifCond .eq 7, 3) := by decide +kernel
theorem dX5_may_51 : decode cX5_may 51 = .ok (.iconst 1, 1) := by decide +kernel
theorem dX5_may_52 : decode cX5_may 52 = .ok (.goto 4, 3) := by decide +kernel
theorem dX5_may_55 : decode cX5_may 55 = .ok (.iconst 0, 1) := by decide +kernel
theorem dX5_may_56 : decode cX5_may 56 = .ok (.ireturn, 1) := by decide +kernel
theorem dX5_triple_0 : decode cX5_triple 0 = .ok (.bipush 49, 2) := by decide +kernel
theorem dX5_triple_2 : decode cX5_triple 2 = .ok (.iload_n 0, 1) := by decide +kernel
theorem dX5_triple_3 : decode cX5_triple 3 = .ok (.iconst 3, 1) := by decide +kernel
theorem dX5_triple_4 : decode cX5_triple 4 = .ok (.iadd, 1) := by decide +kernel
theorem dX5_triple_5 : decode cX5_triple 5 = .ok (.imul, 1) := by decide +kernel
theorem dX5_triple_6 : decode cX5_triple 6 = .ok (.bipush 7, 2) := by decide +kernel
theorem dX5_triple_8 : decode cX5_triple 8 = .ok (.iload_n 1, 1) := by decide +kernel
theorem dX5_triple_9 : decode cX5_triple 9 = .ok (.iconst 3, 1) := by decide +kernel
theorem dX5_triple_10 : decode cX5_triple 10 = .ok (.iadd, 1) := by decide +kernel
theorem dX5_triple_11 : decode cX5_triple 11 = .ok (.imul, 1) := by decide +kernel
theorem dX5_triple_12 : decode cX5_triple 12 = .ok (.iadd, 1) := by decide +kernel
end
section
theorem dX5_triple_13 : decode cX5_triple 13 = .ok (.iload_n 2, 1) := by decide +kernel
theorem dX5_triple_14 : decode cX5_triple 14 = .ok (.iadd, 1) := by decide +kernel
theorem dX5_triple_15 : decode cX5_triple 15 = .ok (.iconst 3, 1) := by decide +kernel
theorem dX5_triple_16 : decode cX5_triple 16 = .ok (.iadd, 1) := by decide +kernel
theorem dX5_triple_17 : decode cX5_triple 17 = .ok (.ireturn, 1) := by decide +kernel
theorem dX5_isFair_0 : decode cX5_isFair 0 = .ok (.aload_n 0, 1) := by decide +kernel
theorem dX5_isFair_1 : decode cX5_isFair 1 = .ok (.getfield 36, 3) := by decide +kernel
theorem dX5_isFair_4 : decode cX5_isFair 4 = .ok (.iload_n 1, 1) := by decide +kernel
theorem dX5_isFair_5 : decode cX5_isFair 5 = .ok (.iconst 3, 1) := by decide +kernel
theorem dX5_isFair_6 : decode cX5_isFair 6 = .ok (.iadd, 1) := by decide +kernel
theorem dX5_isFair_7 : decode cX5_isFair 7 = .ok (.iaload, 1) := by decide +kernel
theorem dX5_isFair_8 : decode cX5_isFair 8 = .ok (.iload 5, 2) := by decide +kernel
theorem dX5_isFair_10 : decode cX5_isFair 10 = .ok (.iadd, 1) := by decide +kernel
theorem dX5_isFair_11 : decode cX5_isFair 11 = .ok (.iconst 3, 1) := by decide +kernel
theorem dX5_isFair_12 : decode cX5_isFair 12 = .ok (.aload_n 0, 1) := by decide +kernel
theorem dX5_isFair_13 : decode cX5_isFair 13 = .ok (.getfield 36, 3) := by decide +kernel
theorem dX5_isFair_16 : decode cX5_isFair 16 = .ok (.iload_n 1, 1) := by decide +kernel
theorem dX5_isFair_17 : decode cX5_isFair 17 = .ok (.iconst 2, 1) := by decide +kernel
theorem dX5_isFair_18 : decode cX5_isFair 18 = .ok (.iadd, 1) := by decide +kernel
theorem dX5_isFair_19 : decode cX5_isFair 19 = .ok (.iaload, 1) := by decide +kernel
theorem dX5_isFair_20 : decode cX5_isFair 20 = .ok (.iload 4, 2) := by decide +kernel
theorem dX5_isFair_22 : decode cX5_isFair 22 = .ok (.iadd, 1) := by decide +kernel
theorem dX5_isFair_23 : decode cX5_isFair 23 = .ok (.imul, 1) := by decide +kernel
theorem dX5_isFair_24 : decode cX5_isFair 24 = .ok (.isub, 1) := by decide +kernel
theorem dX5_isFair_25 : decode cX5_isFair 25 = .ok (.iconst 3, 1) := by decide +kernel
theorem dX5_isFair_26 : decode cX5_isFair 26 = .ok (.aload_n 0, 1) := by decide +kernel
theorem dX5_isFair_27 : decode cX5_isFair 27 = .ok (.getfield 36, 3) := by decide +kernel
theorem dX5_isFair_30 : decode cX5_isFair 30 = .ok (.iload_n 1, 1) := by decide +kernel
theorem dX5_isFair_31 : decode cX5_isFair 31 = .ok (.iconst 1, 1) := by decide +kernel
theorem dX5_isFair_32 : decode cX5_isFair 32 = .ok (.iadd, 1) := by decide +kernel
theorem dX5_isFair_33 : decode cX5_isFair 33 = .ok (.iaload, 1) := by decide +kernel
theorem dX5_isFair_34 : decode cX5_isFair 34 = .ok (.iload_n 3, 1) := by decide +kernel
theorem dX5_isFair_35 : decode cX5_isFair 35 = .ok (.iadd, 1) := by decide +kernel
theorem dX5_isFair_36 : decode cX5_isFair 36 = .ok (.imul, 1) := by decide +kernel
theorem dX5_isFair_37 : decode cX5_isFair 37 = .ok (.iadd, 1) := by decide +kernel
theorem dX5_isFair_38 : decode cX5_isFair 38 = .ok (.aload_n 0, 1) := by decide +kernel
theorem dX5_isFair_39 : decode cX5_isFair 39 = .ok (.getfield 36, 3) := by decide +kernel
theorem dX5_isFair_42 : decode cX5_isFair 42 = .ok (.iload_n 1, 1) := by decide +kernel
theorem dX5_isFair_43 : decode cX5_isFair 43 = .ok (.iaload, 1) := by decide +kernel
theorem dX5_isFair_44 : decode cX5_isFair 44 = .ok (.isub, 1) := by decide +kernel
theorem dX5_isFair_45 : decode cX5_isFair 45 = .ok (.iload_n 2, 1) := by decide +kernel
theorem dX5_isFair_46 : decode cX5_isFair 46 = .ok (.isub, 1) := by decide +kernel
theorem dX5_isFair_47 : decode cX5_isFair 47 = .ok (.istore 6, 2) := by decide +kernel
theorem dX5_isFair_49 : decode cX5_isFair 49 = .ok (.iload 6, 2) := by decide +kernel
theorem dX5_isFair_51 : decode cX5_isFair 51 = .ok (.invokestatic 120, 3) := by decide +kernel
theorem dX5_isFair_54 : decode cX5_isFair 54 = .ok (.aload_n 0, 1) := by decide +kernel
theorem dX5_isFair_55 : decode cX5_isFair 55 = .ok (.getfield 7, 3) := by decide +kernel
theorem dX5_isFair_58 : decode cX5_isFair 58 = .ok (.if_icmp .gt 7, 3) := by decide +kernel
theorem dX5_isFair_61 : decode cX5_isFair 61 = .ok (.iconst 1, 1) := by decide +kernel
theorem dX5_isFair_62 : decode cX5_isFair 62 = .ok (.goto 4, 3) := by decide +kernel
theorem dX5_isFair_65 : decode cX5_isFair 65 = .ok (.iconst 0, 1) := by decide +kernel
theorem dX5_isFair_66 : decode cX5_isFair 66 = .ok (.ireturn, 1) := by decide +kernel
theorem dX5_needFrom_0 : decode cX5_needFrom 0 = .ok (.ldc 127, 2) := by decide +kernel
theorem dX5_needFrom_2 : decode cX5_needFrom 2 = .ok (.istore 5, 2) := by decide +kernel
theorem dX5_needFrom_4 : decode cX5_needFrom 4 = .ok (.aload_n 0, 1) := by decide +kernel
theorem dX5_needFrom_5 : decode cX5_needFrom 5 = .ok (.getfield 13, 3) := by decide +kernel
theorem dX5_needFrom_8 : decode cX5_needFrom 8 = .ok (.ineg, 1) := by decide +kernel
theorem dX5_needFrom_9 : decode cX5_needFrom 9 = .ok (.istore 6, 2) := by decide +kernel
theorem dX5_needFrom_11 : decode cX5_needFrom 11 = .ok (.iload 6, 2) := by decide +kernel
theorem dX5_needFrom_13 : decode cX5_needFrom 13 = .ok (.aload_n 0, 1) := by decide +kernel
theorem dX5_needFrom_14 : decode cX5_needFrom 14 = .ok (.getfield 13, 3) := by decide +kernel
theorem dX5_needFrom_17 : decode cX5_needFrom 17 = .ok (.if_icmp .gt 80, 3) := by decide +kernel
theorem dX5_needFrom_20 : decode cX5_needFrom 20 = .ok (.aload_n 0, 1) := by decide +kernel
theorem dX5_needFrom_21 : decode cX5_needFrom 21 = .ok (.iload_n 1, 1) := by decide +kernel
theorem dX5_needFrom_22 : decode cX5_needFrom 22 = .ok (.iconst 3, 1) := by decide +kernel
theorem dX5_needFrom_23 : decode cX5_needFrom 23 = .ok (.iadd, 1) := by decide +kernel
theorem dX5_needFrom_24 : decode cX5_needFrom 24 = .ok (.iload 6, 2) := by decide +kernel
theorem dX5_needFrom_26 : decode cX5_needFrom 26 = .ok (.invokevirtual 128, 3) := by decide +kernel
theorem dX5_needFrom_29 : decode cX5_needFrom 29 = .ok (.ifCond .eq 62, 3) := by decide +kernel
theorem dX5_needFrom_32 : decode cX5_needFrom 32 = .ok (.aload_n 0, 1) := by decide +kernel
theorem dX5_needFrom_33 : decode cX5_needFrom 33 = .ok (.iload_n 1, 1) := by decide +kernel
theorem dX5_needFrom_34 : decode cX5_needFrom 34 = .ok (.iload_n 2, 1) := by decide +kernel
theorem dX5_needFrom_35 : decode cX5_needFrom 35 = .ok (.iload_n 3, 1) := by decide +kernel
theorem dX5_needFrom_36 : decode cX5_needFrom 36 = .ok (.iload 4, 2) := by decide +kernel
theorem dX5_needFrom_38 : decode cX5_needFrom 38 = .ok (.iload 6, 2) := by decide +kernel
theorem dX5_needFrom_40 : decode cX5_needFrom 40 = .ok (.invokevirtual 131, 3) := by decide +kernel
theorem dX5_needFrom_43 : decode cX5_needFrom 43 = .ok (.ifCond .eq 48, 3) := by decide +kernel
theorem dX5_needFrom_46 : decode cX5_needFrom 46 = .ok (.iload 6, 2) := by decide +kernel
theorem dX5_needFrom_48 : decode cX5_needFrom 48 = .ok (.invokestatic 120, 3) := by decide +kernel
theorem dX5_needFrom_51 : decode cX5_needFrom 51 = .ok (.aload_n 0, 1) := by decide +kernel
theorem dX5_needFrom_52 : decode cX5_needFrom 52 = .ok (.getfield 39, 3) := by decide +kernel
theorem dX5_needFrom_55 : decode cX5_needFrom 55 = .ok (.sipush 343, 3) := by decide +kernel
theorem dX5_needFrom_58 : decode cX5_needFrom 58 = .ok (.iload_n 1, 1) := by decide +kernel
theorem dX5_needFrom_59 : decode cX5_needFrom 59 = .ok (.iconst 1, 1) := by decide +kernel
theorem dX5_needFrom_60 : decode cX5_needFrom 60 = .ok (.iadd, 1) := by decide +kernel
theorem dX5_needFrom_61 : decode cX5_needFrom 61 = .ok (.imul, 1) := by decide +kernel
theorem dX5_needFrom_62 : decode cX5_needFrom 62 = .ok (.iload_n 3, 1) := by decide +kernel
theorem dX5_needFrom_63 : decode cX5_needFrom 63 = .ok (.iload 4, 2) := by decide +kernel
theorem dX5_needFrom_65 : decode cX5_needFrom 65 = .ok (.iload 6, 2) := by decide +kernel
theorem dX5_needFrom_67 : decode cX5_needFrom 67 = .ok (.invokestatic 135, 3) := by decide +kernel
theorem dX5_needFrom_70 : decode cX5_needFrom 70 = .ok (.iadd, 1) := by decide +kernel
theorem dX5_needFrom_71 : decode cX5_needFrom 71 = .ok (.iaload, 1) := by decide +kernel
theorem dX5_needFrom_72 : decode cX5_needFrom 72 = .ok (.iadd, 1) := by decide +kernel
theorem dX5_needFrom_73 : decode cX5_needFrom 73 = .ok (.istore 7, 2) := by decide +kernel
theorem dX5_needFrom_75 : decode cX5_needFrom 75 = .ok (.iload 7, 2) := by decide +kernel
theorem dX5_needFrom_77 : decode cX5_needFrom 77 = .ok (.iload 5, 2) := by decide +kernel
theorem dX5_needFrom_79 : decode cX5_needFrom 79 = .ok (.if_icmp .ge 8, 3) := by decide +kernel
theorem dX5_needFrom_82 : decode cX5_needFrom 82 = .ok (.iload 7, 2) := by decide +kernel
theorem dX5_needFrom_84 : decode cX5_needFrom 84 = .ok (.goto 5, 3) := by decide +kernel
theorem dX5_needFrom_87 : decode cX5_needFrom 87 = .ok (.iload 5, 2) := by decide +kernel
theorem dX5_needFrom_89 : decode cX5_needFrom 89 = .ok (.istore 5, 2) := by decide +kernel
theorem dX5_needFrom_91 : decode cX5_needFrom 91 = .ok (.iinc 6 1, 3) := by decide +kernel
theorem dX5_needFrom_94 : decode cX5_needFrom 94 = .ok (.goto (-83), 3) := by decide +kernel
theorem dX5_needFrom_97 : decode cX5_needFrom 97 = .ok (.iload 5, 2) := by decide +kernel
theorem dX5_needFrom_99 : decode cX5_needFrom 99 = .ok (.ireturn, 1) := by decide +kernel
theorem dX5_findNeeds_0 : decode cX5_findNeeds 0 = .ok (.aload_n 0, 1) := by decide +kernel
theorem dX5_findNeeds_1 : decode cX5_findNeeds 1 = .ok (.getfield 97, 3) := by decide +kernel
theorem dX5_findNeeds_4 : decode cX5_findNeeds 4 = .ok (.iconst 3, 1) := by decide +kernel
theorem dX5_findNeeds_5 : decode cX5_findNeeds 5 = .ok (.isub, 1) := by decide +kernel
theorem dX5_findNeeds_6 : decode cX5_findNeeds 6 = .ok (.istore_n 1, 1) := by decide +kernel
theorem dX5_findNeeds_7 : decode cX5_findNeeds 7 = .ok (.iload_n 1, 1) := by decide +kernel
theorem dX5_findNeeds_8 : decode cX5_findNeeds 8 = .ok (.ifCond .lt 136, 3) := by decide +kernel
theorem dX5_findNeeds_11 : decode cX5_findNeeds 11 = .ok (.iconst 0, 1) := by decide +kernel
theorem dX5_findNeeds_12 : decode cX5_findNeeds 12 = .ok (.istore_n 2, 1) := by decide +kernel
theorem dX5_findNeeds_13 : decode cX5_findNeeds 13 = .ok (.iload_n 2, 1) := by decide +kernel
theorem dX5_findNeeds_14 : decode cX5_findNeeds 14 = .ok (.sipush 343, 3) := by decide +kernel
theorem dX5_findNeeds_17 : decode cX5_findNeeds 17 = .ok (.if_icmp .ge 121, 3) := by decide +kernel
theorem dX5_findNeeds_20 : decode cX5_findNeeds 20 = .ok (.iload_n 2, 1) := by decide +kernel
theorem dX5_findNeeds_21 : decode cX5_findNeeds 21 = .ok (.bipush 49, 2) := by decide +kernel
theorem dX5_findNeeds_23 : decode cX5_findNeeds 23 = .ok (.idiv, 1) := by decide +kernel
theorem dX5_findNeeds_24 : decode cX5_findNeeds 24 = .ok (.iconst 3, 1) := by decide +kernel
theorem dX5_findNeeds_25 : decode cX5_findNeeds 25 = .ok (.isub, 1) := by decide +kernel
theorem dX5_findNeeds_26 : decode cX5_findNeeds 26 = .ok (.istore_n 3, 1) := by decide +kernel
theorem dX5_findNeeds_27 : decode cX5_findNeeds 27 = .ok (.iload_n 2, 1) := by decide +kernel
theorem dX5_findNeeds_28 : decode cX5_findNeeds 28 = .ok (.bipush 7, 2) := by decide +kernel
theorem dX5_findNeeds_30 : decode cX5_findNeeds 30 = .ok (.idiv, 1) := by decide +kernel
theorem dX5_findNeeds_31 : decode cX5_findNeeds 31 = .ok (.bipush 7, 2) := by decide +kernel
theorem dX5_findNeeds_33 : decode cX5_findNeeds 33 = .ok (.irem, 1) := by decide +kernel
theorem dX5_findNeeds_34 : decode cX5_findNeeds 34 = .ok (.iconst 3, 1) := by decide +kernel
theorem dX5_findNeeds_35 : decode cX5_findNeeds 35 = .ok (.isub, 1) := by decide +kernel
theorem dX5_findNeeds_36 : decode cX5_findNeeds 36 = .ok (.istore 4, 2) := by decide +kernel
theorem dX5_findNeeds_38 : decode cX5_findNeeds 38 = .ok (.iload_n 2, 1) := by decide +kernel
theorem dX5_findNeeds_39 : decode cX5_findNeeds 39 = .ok (.bipush 7, 2) := by decide +kernel
theorem dX5_findNeeds_41 : decode cX5_findNeeds 41 = .ok (.irem, 1) := by decide +kernel
theorem dX5_findNeeds_42 : decode cX5_findNeeds 42 = .ok (.iconst 3, 1) := by decide +kernel
theorem dX5_findNeeds_43 : decode cX5_findNeeds 43 = .ok (.isub, 1) := by decide +kernel
theorem dX5_findNeeds_44 : decode cX5_findNeeds 44 = .ok (.istore 5, 2) := by decide +kernel
theorem dX5_findNeeds_46 : decode cX5_findNeeds 46 = .ok (.aload_n 0, 1) := by decide +kernel
theorem dX5_findNeeds_47 : decode cX5_findNeeds 47 = .ok (.iload_n 1, 1) := by decide +kernel
theorem dX5_findNeeds_48 : decode cX5_findNeeds 48 = .ok (.iload_n 3, 1) := by decide +kernel
theorem dX5_findNeeds_49 : decode cX5_findNeeds 49 = .ok (.invokevirtual 128, 3) := by decide +kernel
theorem dX5_findNeeds_52 : decode cX5_findNeeds 52 = .ok (.ifCond .eq 31, 3) := by decide +kernel
theorem dX5_findNeeds_55 : decode cX5_findNeeds 55 = .ok (.aload_n 0, 1) := by decide +kernel
theorem dX5_findNeeds_56 : decode cX5_findNeeds 56 = .ok (.iload_n 1, 1) := by decide +kernel
theorem dX5_findNeeds_57 : decode cX5_findNeeds 57 = .ok (.iconst 1, 1) := by decide +kernel
theorem dX5_findNeeds_58 : decode cX5_findNeeds 58 = .ok (.iadd, 1) := by decide +kernel
theorem dX5_findNeeds_59 : decode cX5_findNeeds 59 = .ok (.iload 4, 2) := by decide +kernel
theorem dX5_findNeeds_61 : decode cX5_findNeeds 61 = .ok (.invokevirtual 128, 3) := by decide +kernel
theorem dX5_findNeeds_64 : decode cX5_findNeeds 64 = .ok (.ifCond .eq 19, 3) := by decide +kernel
theorem dX5_findNeeds_67 : decode cX5_findNeeds 67 = .ok (.aload_n 0, 1) := by decide +kernel
theorem dX5_findNeeds_68 : decode cX5_findNeeds 68 = .ok (.iload_n 1, 1) := by decide +kernel
theorem dX5_findNeeds_69 : decode cX5_findNeeds 69 = .ok (.iconst 2, 1) := by decide +kernel
theorem dX5_findNeeds_70 : decode cX5_findNeeds 70 = .ok (.iadd, 1) := by decide +kernel
theorem dX5_findNeeds_71 : decode cX5_findNeeds 71 = .ok (.iload 5, 2) := by decide +kernel
theorem dX5_findNeeds_73 : decode cX5_findNeeds 73 = .ok (.invokevirtual 128, 3) := by decide +kernel
theorem dX5_findNeeds_76 : decode cX5_findNeeds 76 = .ok (.ifCond .eq 7, 3) := by decide +kernel
theorem dX5_findNeeds_79 : decode cX5_findNeeds 79 = .ok (.iconst 1, 1) := by decide +kernel
theorem dX5_findNeeds_80 : decode cX5_findNeeds 80 = .ok (.goto 4, 3) := by decide +kernel
theorem dX5_findNeeds_83 : decode cX5_findNeeds 83 = .ok (.iconst 0, 1) := by decide +kernel
theorem dX5_findNeeds_84 : decode cX5_findNeeds 84 = .ok (.istore 6, 2) := by decide +kernel
theorem dX5_findNeeds_86 : decode cX5_findNeeds 86 = .ok (.aload_n 0, 1) := by decide +kernel
theorem dX5_findNeeds_87 : decode cX5_findNeeds 87 = .ok (.getfield 39, 3) := by decide +kernel
theorem dX5_findNeeds_90 : decode cX5_findNeeds 90 = .ok (.sipush 343, 3) := by decide +kernel
theorem dX5_findNeeds_93 : decode cX5_findNeeds 93 = .ok (.iload_n 1, 1) := by decide +kernel
theorem dX5_findNeeds_94 : decode cX5_findNeeds 94 = .ok (.imul, 1) := by decide +kernel
theorem dX5_findNeeds_95 : decode cX5_findNeeds 95 = .ok (.iload_n 2, 1) := by decide +kernel
theorem dX5_findNeeds_96 : decode cX5_findNeeds 96 = .ok (.iadd, 1) := by decide +kernel
theorem dX5_findNeeds_97 : decode cX5_findNeeds 97 = .ok (.iload 6, 2) := by decide +kernel
theorem dX5_findNeeds_99 : decode cX5_findNeeds 99 = .ok (.ifCond .ne 8, 3) := by decide +kernel
theorem dX5_findNeeds_102 : decode cX5_findNeeds 102 = .ok (.ldc 127, 2) := by decide +kernel
theorem dX5_findNeeds_104 : decode cX5_findNeeds 104 = .ok (.goto 27, 3) := by decide +kernel
theorem dX5_findNeeds_107 : decode cX5_findNeeds 107 = .ok (.iload_n 1, 1) := by decide +kernel
theorem dX5_findNeeds_108 : decode cX5_findNeeds 108 = .ok (.aload_n 0, 1) := by decide +kernel
theorem dX5_findNeeds_109 : decode cX5_findNeeds 109 = .ok (.getfield 97, 3) := by decide +kernel
theorem dX5_findNeeds_112 : decode cX5_findNeeds 112 = .ok (.iconst 3, 1) := by decide +kernel
theorem dX5_findNeeds_113 : decode cX5_findNeeds 113 = .ok (.isub, 1) := by decide +kernel
theorem dX5_findNeeds_114 : decode cX5_findNeeds 114 = .ok (.if_icmp .ne 7, 3) := by decide +kernel
theorem dX5_findNeeds_117 : decode cX5_findNeeds 117 = .ok (.iconst 0, 1) := by decide +kernel
theorem dX5_findNeeds_118 : decode cX5_findNeeds 118 = .ok (.goto 13, 3) := by decide +kernel
theorem dX5_findNeeds_121 : decode cX5_findNeeds 121 = .ok (.aload_n 0, 1) := by decide +kernel
theorem dX5_findNeeds_122 : decode cX5_findNeeds 122 = .ok (.iload_n 1, 1) := by decide +kernel
theorem dX5_findNeeds_123 : decode cX5_findNeeds 123 = .ok (.iload_n 3, 1) := by decide +kernel
theorem dX5_findNeeds_124 : decode cX5_findNeeds 124 = .ok (.iload 4, 2) := by decide +kernel
theorem dX5_findNeeds_126 : decode cX5_findNeeds 126 = .ok (.iload 5, 2) := by decide +kernel
theorem dX5_findNeeds_128 : decode cX5_findNeeds 128 = .ok (.invokevirtual 139, 3) := by decide +kernel
theorem dX5_findNeeds_131 : decode cX5_findNeeds 131 = .ok (.iastore, 1) := by decide +kernel
theorem dX5_findNeeds_132 : decode cX5_findNeeds 132 = .ok (.iinc 2 1, 3) := by decide +kernel
theorem dX5_findNeeds_135 : decode cX5_findNeeds 135 = .ok (.goto (-122), 3) := by decide +kernel
theorem dX5_findNeeds_138 : decode cX5_findNeeds 138 = .ok (.iinc 1 (-1), 3) := by decide +kernel
theorem dX5_findNeeds_141 : decode cX5_findNeeds 141 = .ok (.goto (-134), 3) := by decide +kernel
theorem dX5_findNeeds_144 : decode cX5_findNeeds 144 = .ok (.return_, 1) := by decide +kernel
theorem dX5_begins_0 : decode cX5_begins 0 = .ok (.ldc 127, 2) := by decide +kernel
theorem dX5_begins_2 : decode cX5_begins 2 = .ok (.istore_n 1, 1) := by decide +kernel
theorem dX5_begins_3 : decode cX5_begins 3 = .ok (.iconst 0, 1) := by decide +kernel
theorem dX5_begins_4 : decode cX5_begins 4 = .ok (.istore_n 2, 1) := by decide +kernel
theorem dX5_begins_5 : decode cX5_begins 5 = .ok (.iconst 0, 1) := by decide +kernel
theorem dX5_begins_6 : decode cX5_begins 6 = .ok (.istore_n 3, 1) := by decide +kernel
theorem dX5_begins_7 : decode cX5_begins 7 = .ok (.iload_n 3, 1) := by decide +kernel
theorem dX5_begins_8 : decode cX5_begins 8 = .ok (.sipush 343, 3) := by decide +kernel
theorem dX5_begins_11 : decode cX5_begins 11 = .ok (.if_icmp .ge 75, 3) := by decide +kernel
theorem dX5_begins_14 : decode cX5_begins 14 = .ok (.iload_n 3, 1) := by decide +kernel
theorem dX5_begins_15 : decode cX5_begins 15 = .ok (.bipush 49, 2) := by decide +kernel
theorem dX5_begins_17 : decode cX5_begins 17 = .ok (.idiv, 1) := by decide +kernel
theorem dX5_begins_18 : decode cX5_begins 18 = .ok (.iconst 3, 1) := by decide +kernel
theorem dX5_begins_19 : decode cX5_begins 19 = .ok (.isub, 1) := by decide +kernel
theorem dX5_begins_20 : decode cX5_begins 20 = .ok (.invokestatic 120, 3) := by decide +kernel
theorem dX5_begins_23 : decode cX5_begins 23 = .ok (.iload_n 3, 1) := by decide +kernel
theorem dX5_begins_24 : decode cX5_begins 24 = .ok (.bipush 7, 2) := by decide +kernel
theorem dX5_begins_26 : decode cX5_begins 26 = .ok (.idiv, 1) := by decide +kernel
theorem dX5_begins_27 : decode cX5_begins 27 = .ok (.bipush 7, 2) := by decide +kernel
theorem dX5_begins_29 : decode cX5_begins 29 = .ok (.irem, 1) := by decide +kernel
theorem dX5_begins_30 : decode cX5_begins 30 = .ok (.iconst 3, 1) := by decide +kernel
theorem dX5_begins_31 : decode cX5_begins 31 = .ok (.isub, 1) := by decide +kernel
theorem dX5_begins_32 : decode cX5_begins 32 = .ok (.invokestatic 120, 3) := by decide +kernel
theorem dX5_begins_35 : decode cX5_begins 35 = .ok (.iadd, 1) := by decide +kernel
theorem dX5_begins_36 : decode cX5_begins 36 = .ok (.iload_n 3, 1) := by decide +kernel
theorem dX5_begins_37 : decode cX5_begins 37 = .ok (.bipush 7, 2) := by decide +kernel
theorem dX5_begins_39 : decode cX5_begins 39 = .ok (.irem, 1) := by decide +kernel
theorem dX5_begins_40 : decode cX5_begins 40 = .ok (.iconst 3, 1) := by decide +kernel
theorem dX5_begins_41 : decode cX5_begins 41 = .ok (.isub, 1) := by decide +kernel
theorem dX5_begins_42 : decode cX5_begins 42 = .ok (.invokestatic 120, 3) := by decide +kernel
theorem dX5_begins_45 : decode cX5_begins 45 = .ok (.iadd, 1) := by decide +kernel
theorem dX5_begins_46 : decode cX5_begins 46 = .ok (.aload_n 0, 1) := by decide +kernel
theorem dX5_begins_47 : decode cX5_begins 47 = .ok (.getfield 39, 3) := by decide +kernel
theorem dX5_begins_50 : decode cX5_begins 50 = .ok (.iload_n 3, 1) := by decide +kernel
theorem dX5_begins_51 : decode cX5_begins 51 = .ok (.iaload, 1) := by decide +kernel
theorem dX5_begins_52 : decode cX5_begins 52 = .ok (.iadd, 1) := by decide +kernel
theorem dX5_begins_53 : decode cX5_begins 53 = .ok (.istore 4, 2) := by decide +kernel
theorem dX5_begins_55 : decode cX5_begins 55 = .ok (.iload 4, 2) := by decide +kernel
theorem dX5_begins_57 : decode cX5_begins 57 = .ok (.iload_n 1, 1) := by decide +kernel
theorem dX5_begins_58 : decode cX5_begins 58 = .ok (.if_icmp .ge 7, 3) := by decide +kernel
theorem dX5_begins_61 : decode cX5_begins 61 = .ok (.iload_n 3, 1) := by decide +kernel
theorem dX5_begins_62 : decode cX5_begins 62 = .ok (.goto 4, 3) := by decide +kernel
theorem dX5_begins_65 : decode cX5_begins 65 = .ok (.iload_n 2, 1) := by decide +kernel
theorem dX5_begins_66 : decode cX5_begins 66 = .ok (.istore_n 2, 1) := by decide +kernel
theorem dX5_begins_67 : decode cX5_begins 67 = .ok (.iload 4, 2) := by decide +kernel
theorem dX5_begins_69 : decode cX5_begins 69 = .ok (.iload_n 1, 1) := by decide +kernel
theorem dX5_begins_70 : decode cX5_begins 70 = .ok (.if_icmp .ge 8, 3) := by decide +kernel
theorem dX5_begins_73 : decode cX5_begins 73 = .ok (.iload 4, 2) := by decide +kernel
theorem dX5_begins_75 : decode cX5_begins 75 = .ok (.goto 4, 3) := by decide +kernel
theorem dX5_begins_78 : decode cX5_begins 78 = .ok (.iload_n 1, 1) := by decide +kernel
theorem dX5_begins_79 : decode cX5_begins 79 = .ok (.istore_n 1, 1) := by decide +kernel
theorem dX5_begins_80 : decode cX5_begins 80 = .ok (.iinc 3 1, 3) := by decide +kernel
theorem dX5_begins_83 : decode cX5_begins 83 = .ok (.goto (-76), 3) := by decide +kernel
theorem dX5_begins_86 : decode cX5_begins 86 = .ok (.aload_n 0, 1) := by decide +kernel
theorem dX5_begins_87 : decode cX5_begins 87 = .ok (.iload_n 1, 1) := by decide +kernel
theorem dX5_begins_88 : decode cX5_begins 88 = .ok (.putfield 142, 3) := by decide +kernel
theorem dX5_begins_91 : decode cX5_begins 91 = .ok (.aload_n 0, 1) := by decide +kernel
theorem dX5_begins_92 : decode cX5_begins 92 = .ok (.getfield 42, 3) := by decide +kernel
theorem dX5_begins_95 : decode cX5_begins 95 = .ok (.iconst 0, 1) := by decide +kernel
theorem dX5_begins_96 : decode cX5_begins 96 = .ok (.iload_n 2, 1) := by decide +kernel
theorem dX5_begins_97 : decode cX5_begins 97 = .ok (.bipush 49, 2) := by decide +kernel
theorem dX5_begins_99 : decode cX5_begins 99 = .ok (.idiv, 1) := by decide +kernel
theorem dX5_begins_100 : decode cX5_begins 100 = .ok (.iconst 3, 1) := by decide +kernel
theorem dX5_begins_101 : decode cX5_begins 101 = .ok (.isub, 1) := by decide +kernel
theorem dX5_begins_102 : decode cX5_begins 102 = .ok (.iastore, 1) := by decide +kernel
theorem dX5_begins_103 : decode cX5_begins 103 = .ok (.aload_n 0, 1) := by decide +kernel
theorem dX5_begins_104 : decode cX5_begins 104 = .ok (.getfield 42, 3) := by decide +kernel
theorem dX5_begins_107 : decode cX5_begins 107 = .ok (.iconst 1, 1) := by decide +kernel
theorem dX5_begins_108 : decode cX5_begins 108 = .ok (.iload_n 2, 1) := by decide +kernel
theorem dX5_begins_109 : decode cX5_begins 109 = .ok (.bipush 7, 2) := by decide +kernel
theorem dX5_begins_111 : decode cX5_begins 111 = .ok (.idiv, 1) := by decide +kernel
theorem dX5_begins_112 : decode cX5_begins 112 = .ok (.bipush 7, 2) := by decide +kernel
theorem dX5_begins_114 : decode cX5_begins 114 = .ok (.irem, 1) := by decide +kernel
theorem dX5_begins_115 : decode cX5_begins 115 = .ok (.iconst 3, 1) := by decide +kernel
theorem dX5_begins_116 : decode cX5_begins 116 = .ok (.isub, 1) := by decide +kernel
theorem dX5_begins_117 : decode cX5_begins 117 = .ok (.iastore, 1) := by decide +kernel
theorem dX5_begins_118 : decode cX5_begins 118 = .ok (.aload_n 0, 1) := by decide +kernel
theorem dX5_begins_119 : decode cX5_begins 119 = .ok (.getfield 42, 3) := by decide +kernel
theorem dX5_begins_122 : decode cX5_begins 122 = .ok (.iconst 2, 1) := by decide +kernel
theorem dX5_begins_123 : decode cX5_begins 123 = .ok (.iload_n 2, 1) := by decide +kernel
theorem dX5_begins_124 : decode cX5_begins 124 = .ok (.bipush 7, 2) := by decide +kernel
theorem dX5_begins_126 : decode cX5_begins 126 = .ok (.irem, 1) := by decide +kernel
theorem dX5_begins_127 : decode cX5_begins 127 = .ok (.iconst 3, 1) := by decide +kernel
theorem dX5_begins_128 : decode cX5_begins 128 = .ok (.isub, 1) := by decide +kernel
theorem dX5_begins_129 : decode cX5_begins 129 = .ok (.iastore, 1) := by decide +kernel
theorem dX5_begins_130 : decode cX5_begins 130 = .ok (.iload_n 1, 1) := by decide +kernel
theorem dX5_begins_131 : decode cX5_begins 131 = .ok (.ldc 127, 2) := by decide +kernel
theorem dX5_begins_133 : decode cX5_begins 133 = .ok (.if_icmp .ge 7, 3) := by decide +kernel
theorem dX5_begins_136 : decode cX5_begins 136 = .ok (.iconst 1, 1) := by decide +kernel
theorem dX5_begins_137 : decode cX5_begins 137 = .ok (.goto 4, 3) := by decide +kernel
theorem dX5_begins_140 : decode cX5_begins 140 = .ok (.iconst 0, 1) := by decide +kernel
theorem dX5_begins_141 : decode cX5_begins 141 = .ok (.ireturn, 1) := by decide +kernel
theorem dX5_nextMove_0 : decode cX5_nextMove 0 = .ok (.aload_n 0, 1) := by decide +kernel
theorem dX5_nextMove_1 : decode cX5_nextMove 1 = .ok (.getfield 39, 3) := by decide +kernel
theorem dX5_nextMove_4 : decode cX5_nextMove 4 = .ok (.sipush 343, 3) := by decide +kernel
theorem dX5_nextMove_7 : decode cX5_nextMove 7 = .ok (.iload_n 1, 1) := by decide +kernel
theorem dX5_nextMove_8 : decode cX5_nextMove 8 = .ok (.imul, 1) := by decide +kernel
theorem dX5_nextMove_9 : decode cX5_nextMove 9 = .ok (.aload_n 0, 1) := by decide +kernel
theorem dX5_nextMove_10 : decode cX5_nextMove 10 = .ok (.getfield 42, 3) := by decide +kernel
theorem dX5_nextMove_13 : decode cX5_nextMove 13 = .ok (.iload_n 1, 1) := by decide +kernel
theorem dX5_nextMove_14 : decode cX5_nextMove 14 = .ok (.iaload, 1) := by decide +kernel
theorem dX5_nextMove_15 : decode cX5_nextMove 15 = .ok (.aload_n 0, 1) := by decide +kernel
theorem dX5_nextMove_16 : decode cX5_nextMove 16 = .ok (.getfield 42, 3) := by decide +kernel
theorem dX5_nextMove_19 : decode cX5_nextMove 19 = .ok (.iload_n 1, 1) := by decide +kernel
theorem dX5_nextMove_20 : decode cX5_nextMove 20 = .ok (.iconst 1, 1) := by decide +kernel
theorem dX5_nextMove_21 : decode cX5_nextMove 21 = .ok (.iadd, 1) := by decide +kernel
theorem dX5_nextMove_22 : decode cX5_nextMove 22 = .ok (.iaload, 1) := by decide +kernel
theorem dX5_nextMove_23 : decode cX5_nextMove 23 = .ok (.aload_n 0, 1) := by decide +kernel
theorem dX5_nextMove_24 : decode cX5_nextMove 24 = .ok (.getfield 42, 3) := by decide +kernel
theorem dX5_nextMove_27 : decode cX5_nextMove 27 = .ok (.iload_n 1, 1) := by decide +kernel
theorem dX5_nextMove_28 : decode cX5_nextMove 28 = .ok (.iconst 2, 1) := by decide +kernel
theorem dX5_nextMove_29 : decode cX5_nextMove 29 = .ok (.iadd, 1) := by decide +kernel
theorem dX5_nextMove_30 : decode cX5_nextMove 30 = .ok (.iaload, 1) := by decide +kernel
theorem dX5_nextMove_31 : decode cX5_nextMove 31 = .ok (.invokestatic 135, 3) := by decide +kernel
theorem dX5_nextMove_34 : decode cX5_nextMove 34 = .ok (.iadd, 1) := by decide +kernel
theorem dX5_nextMove_35 : decode cX5_nextMove 35 = .ok (.iaload, 1) := by decide +kernel
theorem dX5_nextMove_36 : decode cX5_nextMove 36 = .ok (.istore_n 2, 1) := by decide +kernel
theorem dX5_nextMove_37 : decode cX5_nextMove 37 = .ok (.aload_n 0, 1) := by decide +kernel
theorem dX5_nextMove_38 : decode cX5_nextMove 38 = .ok (.getfield 13, 3) := by decide +kernel
theorem dX5_nextMove_41 : decode cX5_nextMove 41 = .ok (.ineg, 1) := by decide +kernel
theorem dX5_nextMove_42 : decode cX5_nextMove 42 = .ok (.istore_n 3, 1) := by decide +kernel
theorem dX5_nextMove_43 : decode cX5_nextMove 43 = .ok (.iload_n 3, 1) := by decide +kernel
theorem dX5_nextMove_44 : decode cX5_nextMove 44 = .ok (.aload_n 0, 1) := by decide +kernel
theorem dX5_nextMove_45 : decode cX5_nextMove 45 = .ok (.getfield 13, 3) := by decide +kernel
theorem dX5_nextMove_48 : decode cX5_nextMove 48 = .ok (.if_icmp .gt 95, 3) := by decide +kernel
theorem dX5_nextMove_51 : decode cX5_nextMove 51 = .ok (.aload_n 0, 1) := by decide +kernel
theorem dX5_nextMove_52 : decode cX5_nextMove 52 = .ok (.iload_n 1, 1) := by decide +kernel
theorem dX5_nextMove_53 : decode cX5_nextMove 53 = .ok (.iconst 3, 1) := by decide +kernel
theorem dX5_nextMove_54 : decode cX5_nextMove 54 = .ok (.iadd, 1) := by decide +kernel
theorem dX5_nextMove_55 : decode cX5_nextMove 55 = .ok (.iload_n 3, 1) := by decide +kernel
theorem dX5_nextMove_56 : decode cX5_nextMove 56 = .ok (.invokevirtual 128, 3) := by decide +kernel
theorem dX5_nextMove_59 : decode cX5_nextMove 59 = .ok (.ifCond .eq 78, 3) := by decide +kernel
theorem dX5_nextMove_62 : decode cX5_nextMove 62 = .ok (.aload_n 0, 1) := by decide +kernel
theorem dX5_nextMove_63 : decode cX5_nextMove 63 = .ok (.iload_n 1, 1) := by decide +kernel
theorem dX5_nextMove_64 : decode cX5_nextMove 64 = .ok (.aload_n 0, 1) := by decide +kernel
theorem dX5_nextMove_65 : decode cX5_nextMove 65 = .ok (.getfield 42, 3) := by decide +kernel
theorem dX5_nextMove_68 : decode cX5_nextMove 68 = .ok (.iload_n 1, 1) := by decide +kernel
theorem dX5_nextMove_69 : decode cX5_nextMove 69 = .ok (.iaload, 1) := by decide +kernel
theorem dX5_nextMove_70 : decode cX5_nextMove 70 = .ok (.aload_n 0, 1) := by decide +kernel
theorem dX5_nextMove_71 : decode cX5_nextMove 71 = .ok (.getfield 42, 3) := by decide +kernel
theorem dX5_nextMove_74 : decode cX5_nextMove 74 = .ok (.iload_n 1, 1) := by decide +kernel
theorem dX5_nextMove_75 : decode cX5_nextMove 75 = .ok (.iconst 1, 1) := by decide +kernel
theorem dX5_nextMove_76 : decode cX5_nextMove 76 = .ok (.iadd, 1) := by decide +kernel
theorem dX5_nextMove_77 : decode cX5_nextMove 77 = .ok (.iaload, 1) := by decide +kernel
theorem dX5_nextMove_78 : decode cX5_nextMove 78 = .ok (.aload_n 0, 1) := by decide +kernel
theorem dX5_nextMove_79 : decode cX5_nextMove 79 = .ok (.getfield 42, 3) := by decide +kernel
theorem dX5_nextMove_82 : decode cX5_nextMove 82 = .ok (.iload_n 1, 1) := by decide +kernel
theorem dX5_nextMove_83 : decode cX5_nextMove 83 = .ok (.iconst 2, 1) := by decide +kernel
theorem dX5_nextMove_84 : decode cX5_nextMove 84 = .ok (.iadd, 1) := by decide +kernel
theorem dX5_nextMove_85 : decode cX5_nextMove 85 = .ok (.iaload, 1) := by decide +kernel
theorem dX5_nextMove_86 : decode cX5_nextMove 86 = .ok (.iload_n 3, 1) := by decide +kernel
theorem dX5_nextMove_87 : decode cX5_nextMove 87 = .ok (.invokevirtual 131, 3) := by decide +kernel
theorem dX5_nextMove_90 : decode cX5_nextMove 90 = .ok (.ifCond .eq 47, 3) := by decide +kernel
theorem dX5_nextMove_93 : decode cX5_nextMove 93 = .ok (.iload_n 3, 1) := by decide +kernel
theorem dX5_nextMove_94 : decode cX5_nextMove 94 = .ok (.invokestatic 120, 3) := by decide +kernel
theorem dX5_nextMove_97 : decode cX5_nextMove 97 = .ok (.aload_n 0, 1) := by decide +kernel
theorem dX5_nextMove_98 : decode cX5_nextMove 98 = .ok (.getfield 39, 3) := by decide +kernel
theorem dX5_nextMove_101 : decode cX5_nextMove 101 = .ok (.sipush 343, 3) := by decide +kernel
theorem dX5_nextMove_104 : decode cX5_nextMove 104 = .ok (.iload_n 1, 1) := by decide +kernel
theorem dX5_nextMove_105 : decode cX5_nextMove 105 = .ok (.iconst 1, 1) := by decide +kernel
theorem dX5_nextMove_106 : decode cX5_nextMove 106 = .ok (.iadd, 1) := by decide +kernel
theorem dX5_nextMove_107 : decode cX5_nextMove 107 = .ok (.imul, 1) := by decide +kernel
theorem dX5_nextMove_108 : decode cX5_nextMove 108 = .ok (.aload_n 0, 1) := by decide +kernel
theorem dX5_nextMove_109 : decode cX5_nextMove 109 = .ok (.getfield 42, 3) := by decide +kernel
theorem dX5_nextMove_112 : decode cX5_nextMove 112 = .ok (.iload_n 1, 1) := by decide +kernel
theorem dX5_nextMove_113 : decode cX5_nextMove 113 = .ok (.iconst 1, 1) := by decide +kernel
theorem dX5_nextMove_114 : decode cX5_nextMove 114 = .ok (.iadd, 1) := by decide +kernel
theorem dX5_nextMove_115 : decode cX5_nextMove 115 = .ok (.iaload, 1) := by decide +kernel
theorem dX5_nextMove_116 : decode cX5_nextMove 116 = .ok (.aload_n 0, 1) := by decide +kernel
theorem dX5_nextMove_117 : decode cX5_nextMove 117 = .ok (.getfield 42, 3) := by decide +kernel
theorem dX5_nextMove_120 : decode cX5_nextMove 120 = .ok (.iload_n 1, 1) := by decide +kernel
theorem dX5_nextMove_121 : decode cX5_nextMove 121 = .ok (.iconst 2, 1) := by decide +kernel
theorem dX5_nextMove_122 : decode cX5_nextMove 122 = .ok (.iadd, 1) := by decide +kernel
theorem dX5_nextMove_123 : decode cX5_nextMove 123 = .ok (.iaload, 1) := by decide +kernel
theorem dX5_nextMove_124 : decode cX5_nextMove 124 = .ok (.iload_n 3, 1) := by decide +kernel
theorem dX5_nextMove_125 : decode cX5_nextMove 125 = .ok (.invokestatic 135, 3) := by decide +kernel
theorem dX5_nextMove_128 : decode cX5_nextMove 128 = .ok (.iadd, 1) := by decide +kernel
theorem dX5_nextMove_129 : decode cX5_nextMove 129 = .ok (.iaload, 1) := by decide +kernel
theorem dX5_nextMove_130 : decode cX5_nextMove 130 = .ok (.iadd, 1) := by decide +kernel
theorem dX5_nextMove_131 : decode cX5_nextMove 131 = .ok (.iload_n 2, 1) := by decide +kernel
theorem dX5_nextMove_132 : decode cX5_nextMove 132 = .ok (.if_icmp .ne 5, 3) := by decide +kernel
theorem dX5_nextMove_135 : decode cX5_nextMove 135 = .ok (.iload_n 3, 1) := by decide +kernel
theorem dX5_nextMove_136 : decode cX5_nextMove 136 = .ok (.ireturn, 1) := by decide +kernel
theorem dX5_nextMove_137 : decode cX5_nextMove 137 = .ok (.iinc 3 1, 3) := by decide +kernel
theorem dX5_nextMove_140 : decode cX5_nextMove 140 = .ok (.goto (-97), 3) := by decide +kernel
theorem dX5_nextMove_143 : decode cX5_nextMove 143 = .ok (.bipush (-9), 2) := by decide +kernel
theorem dX5_nextMove_145 : decode cX5_nextMove 145 = .ok (.ireturn, 1) := by decide +kernel
theorem dX5_findLeast_0 : decode cX5_findLeast 0 = .ok (.aload_n 0, 1) := by decide +kernel
theorem dX5_findLeast_1 : decode cX5_findLeast 1 = .ok (.invokevirtual 145, 3) := by decide +kernel
theorem dX5_findLeast_4 : decode cX5_findLeast 4 = .ok (.aload_n 0, 1) := by decide +kernel
theorem dX5_findLeast_5 : decode cX5_findLeast 5 = .ok (.invokevirtual 148, 3) := by decide +kernel
theorem dX5_findLeast_8 : decode cX5_findLeast 8 = .ok (.ifCond .ne 5, 3) := by decide +kernel
theorem dX5_findLeast_11 : decode cX5_findLeast 11 = .ok (.iconst 0, 1) := by decide +kernel
theorem dX5_findLeast_12 : decode cX5_findLeast 12 = .ok (.ireturn, 1) := by decide +kernel
theorem dX5_findLeast_13 : decode cX5_findLeast 13 = .ok (.iconst 0, 1) := by decide +kernel
theorem dX5_findLeast_14 : decode cX5_findLeast 14 = .ok (.istore_n 1, 1) := by decide +kernel
theorem dX5_findLeast_15 : decode cX5_findLeast 15 = .ok (.iload_n 1, 1) := by decide +kernel
theorem dX5_findLeast_16 : decode cX5_findLeast 16 = .ok (.iconst 3, 1) := by decide +kernel
theorem dX5_findLeast_17 : decode cX5_findLeast 17 = .ok (.iadd, 1) := by decide +kernel
theorem dX5_findLeast_18 : decode cX5_findLeast 18 = .ok (.aload_n 0, 1) := by decide +kernel
theorem dX5_findLeast_19 : decode cX5_findLeast 19 = .ok (.getfield 97, 3) := by decide +kernel
theorem dX5_findLeast_22 : decode cX5_findLeast 22 = .ok (.if_icmp .ge 22, 3) := by decide +kernel
theorem dX5_findLeast_25 : decode cX5_findLeast 25 = .ok (.aload_n 0, 1) := by decide +kernel
theorem dX5_findLeast_26 : decode cX5_findLeast 26 = .ok (.getfield 42, 3) := by decide +kernel
theorem dX5_findLeast_29 : decode cX5_findLeast 29 = .ok (.iload_n 1, 1) := by decide +kernel
theorem dX5_findLeast_30 : decode cX5_findLeast 30 = .ok (.iconst 3, 1) := by decide +kernel
theorem dX5_findLeast_31 : decode cX5_findLeast 31 = .ok (.iadd, 1) := by decide +kernel
theorem dX5_findLeast_32 : decode cX5_findLeast 32 = .ok (.aload_n 0, 1) := by decide +kernel
theorem dX5_findLeast_33 : decode cX5_findLeast 33 = .ok (.iload_n 1, 1) := by decide +kernel
theorem dX5_findLeast_34 : decode cX5_findLeast 34 = .ok (.invokevirtual 152, 3) := by decide +kernel
theorem dX5_findLeast_37 : decode cX5_findLeast 37 = .ok (.iastore, 1) := by decide +kernel
theorem dX5_findLeast_38 : decode cX5_findLeast 38 = .ok (.iinc 1 1, 3) := by decide +kernel
theorem dX5_findLeast_41 : decode cX5_findLeast 41 = .ok (.goto (-26), 3) := by decide +kernel
theorem dX5_findLeast_44 : decode cX5_findLeast 44 = .ok (.iconst 1, 1) := by decide +kernel
theorem dX5_findLeast_45 : decode cX5_findLeast 45 = .ok (.ireturn, 1) := by decide +kernel
theorem dX5_least_0 : decode cX5_least 0 = .ok (.iload_n 1, 1) := by decide +kernel
theorem dX5_least_1 : decode cX5_least 1 = .ok (.invokestatic 103, 3) := by decide +kernel
theorem dX5_least_4 : decode cX5_least 4 = .ok (.ifCond .ne 6, 3) := by decide +kernel
theorem dX5_least_7 : decode cX5_least 7 = .ok (.bipush (-2), 2) := by decide +kernel
theorem dX5_least_9 : decode cX5_least 9 = .ok (.ireturn, 1) := by decide +kernel
theorem dX5_least_10 : decode cX5_least 10 = .ok (.aload_n 0, 1) := by decide +kernel
theorem dX5_least_11 : decode cX5_least 11 = .ok (.iload_n 1, 1) := by decide +kernel
theorem dX5_least_12 : decode cX5_least 12 = .ok (.iload_n 2, 1) := by decide +kernel
theorem dX5_least_13 : decode cX5_least 13 = .ok (.invokevirtual 106, 3) := by decide +kernel
theorem dX5_least_16 : decode cX5_least 16 = .ok (.ifCond .ne 5, 3) := by decide +kernel
theorem dX5_least_19 : decode cX5_least 19 = .ok (.iconst (-1), 1) := by decide +kernel
theorem dX5_least_20 : decode cX5_least 20 = .ok (.ireturn, 1) := by decide +kernel
theorem dX5_least_21 : decode cX5_least 21 = .ok (.aload_n 0, 1) := by decide +kernel
theorem dX5_least_22 : decode cX5_least 22 = .ok (.iload_n 1, 1) := by decide +kernel
theorem dX5_least_23 : decode cX5_least 23 = .ok (.iload_n 2, 1) := by decide +kernel
theorem dX5_least_24 : decode cX5_least 24 = .ok (.invokevirtual 109, 3) := by decide +kernel
theorem dX5_least_27 : decode cX5_least 27 = .ok (.iload_n 3, 1) := by decide +kernel
theorem dX5_least_28 : decode cX5_least 28 = .ok (.i2l, 1) := by decide +kernel
theorem dX5_least_29 : decode cX5_least 29 = .ok (.ldc2_w 155, 3) := by decide +kernel
theorem dX5_least_32 : decode cX5_least 32 = .ok (.aload_n 0, 1) := by decide +kernel
theorem dX5_least_33 : decode cX5_least 33 = .ok (.getfield 97, 3) := by decide +kernel
theorem dX5_least_36 : decode cX5_least 36 = .ok (.iconst 1, 1) := by decide +kernel
theorem dX5_least_37 : decode cX5_least 37 = .ok (.isub, 1) := by decide +kernel
theorem dX5_least_38 : decode cX5_least 38 = .ok (.i2l, 1) := by decide +kernel
theorem dX5_least_39 : decode cX5_least 39 = .ok (.invokestatic 67, 3) := by decide +kernel
theorem dX5_least_42 : decode cX5_least 42 = .ok (.ifCond .ne 6, 3) := by decide +kernel
theorem dX5_least_45 : decode cX5_least 45 = .ok (.bipush (-2), 2) := by decide +kernel
theorem dX5_least_47 : decode cX5_least 47 = .ok (.ireturn, 1) := by decide +kernel
theorem dX5_least_48 : decode cX5_least 48 = .ok (.aload_n 0, 1) := by decide +kernel
theorem dX5_least_49 : decode cX5_least 49 = .ok (.invokevirtual 157, 3) := by decide +kernel
theorem dX5_least_52 : decode cX5_least 52 = .ok (.ifCond .ne 6, 3) := by decide +kernel
theorem dX5_least_55 : decode cX5_least 55 = .ok (.bipush (-9), 2) := by decide +kernel
theorem dX5_least_57 : decode cX5_least 57 = .ok (.ireturn, 1) := by decide +kernel
theorem dX5_least_58 : decode cX5_least 58 = .ok (.iload_n 3, 1) := by decide +kernel
theorem dX5_least_59 : decode cX5_least 59 = .ok (.ifCond .ge 10, 3) := by decide +kernel
theorem dX5_least_62 : decode cX5_least 62 = .ok (.aload_n 0, 1) := by decide +kernel
theorem dX5_least_63 : decode cX5_least 63 = .ok (.getfield 142, 3) := by decide +kernel
theorem dX5_least_66 : decode cX5_least 66 = .ok (.goto 9, 3) := by decide +kernel
theorem dX5_least_69 : decode cX5_least 69 = .ok (.aload_n 0, 1) := by decide +kernel
theorem dX5_least_70 : decode cX5_least 70 = .ok (.getfield 42, 3) := by decide +kernel
theorem dX5_least_73 : decode cX5_least 73 = .ok (.iload_n 3, 1) := by decide +kernel
theorem dX5_least_74 : decode cX5_least 74 = .ok (.iaload, 1) := by decide +kernel
theorem dX5_least_75 : decode cX5_least 75 = .ok (.ireturn, 1) := by decide +kernel
theorem dX5_fairs_0 : decode cX5_fairs 0 = .ok (.aload_n 0, 1) := by decide +kernel
theorem dX5_fairs_1 : decode cX5_fairs 1 = .ok (.iload_n 1, 1) := by decide +kernel
theorem dX5_fairs_2 : decode cX5_fairs 2 = .ok (.iload_n 2, 1) := by decide +kernel
theorem dX5_fairs_3 : decode cX5_fairs 3 = .ok (.invokevirtual 109, 3) := by decide +kernel
theorem dX5_fairs_6 : decode cX5_fairs 6 = .ok (.aload_n 0, 1) := by decide +kernel
theorem dX5_fairs_7 : decode cX5_fairs 7 = .ok (.invokevirtual 157, 3) := by decide +kernel
theorem dX5_fairs_10 : decode cX5_fairs 10 = .ok (.ifCond .ne 5, 3) := by decide +kernel
theorem dX5_fairs_13 : decode cX5_fairs 13 = .ok (.iconst 0, 1) := by decide +kernel
theorem dX5_fairs_14 : decode cX5_fairs 14 = .ok (.ireturn, 1) := by decide +kernel
theorem dX5_fairs_15 : decode cX5_fairs 15 = .ok (.iconst 0, 1) := by decide +kernel
theorem dX5_fairs_16 : decode cX5_fairs 16 = .ok (.istore_n 3, 1) := by decide +kernel
theorem dX5_fairs_17 : decode cX5_fairs 17 = .ok (.iload_n 3, 1) := by decide +kernel
theorem dX5_fairs_18 : decode cX5_fairs 18 = .ok (.aload_n 0, 1) := by decide +kernel
theorem dX5_fairs_19 : decode cX5_fairs 19 = .ok (.getfield 97, 3) := by decide +kernel
theorem dX5_fairs_22 : decode cX5_fairs 22 = .ok (.if_icmp .ge 29, 3) := by decide +kernel
theorem dX5_fairs_25 : decode cX5_fairs 25 = .ok (.aload_n 0, 1) := by decide +kernel
theorem dX5_fairs_26 : decode cX5_fairs 26 = .ok (.getfield 22, 3) := by decide +kernel
theorem dX5_fairs_29 : decode cX5_fairs 29 = .ok (.aload_n 0, 1) := by decide +kernel
theorem dX5_fairs_30 : decode cX5_fairs 30 = .ok (.getfield 33, 3) := by decide +kernel
theorem dX5_fairs_33 : decode cX5_fairs 33 = .ok (.iload_n 3, 1) := by decide +kernel
theorem dX5_fairs_34 : decode cX5_fairs 34 = .ok (.iaload, 1) := by decide +kernel
theorem dX5_fairs_35 : decode cX5_fairs 35 = .ok (.dup2, 1) := by decide +kernel
theorem dX5_fairs_36 : decode cX5_fairs 36 = .ok (.iaload, 1) := by decide +kernel
theorem dX5_fairs_37 : decode cX5_fairs 37 = .ok (.aload_n 0, 1) := by decide +kernel
theorem dX5_fairs_38 : decode cX5_fairs 38 = .ok (.getfield 42, 3) := by decide +kernel
theorem dX5_fairs_41 : decode cX5_fairs 41 = .ok (.iload_n 3, 1) := by decide +kernel
theorem dX5_fairs_42 : decode cX5_fairs 42 = .ok (.iaload, 1) := by decide +kernel
theorem dX5_fairs_43 : decode cX5_fairs 43 = .ok (.iadd, 1) := by decide +kernel
theorem dX5_fairs_44 : decode cX5_fairs 44 = .ok (.iastore, 1) := by decide +kernel
theorem dX5_fairs_45 : decode cX5_fairs 45 = .ok (.iinc 3 1, 3) := by decide +kernel
theorem dX5_fairs_48 : decode cX5_fairs 48 = .ok (.goto (-31), 3) := by decide +kernel
theorem dX5_fairs_51 : decode cX5_fairs 51 = .ok (.iconst 1, 1) := by decide +kernel
theorem dX5_fairs_52 : decode cX5_fairs 52 = .ok (.ireturn, 1) := by decide +kernel
theorem dX5_fair_0 : decode cX5_fair 0 = .ok (.iload_n 1, 1) := by decide +kernel
theorem dX5_fair_1 : decode cX5_fair 1 = .ok (.invokestatic 103, 3) := by decide +kernel
theorem dX5_fair_4 : decode cX5_fair 4 = .ok (.ifCond .ne 6, 3) := by decide +kernel
theorem dX5_fair_7 : decode cX5_fair 7 = .ok (.bipush (-2), 2) := by decide +kernel
theorem dX5_fair_9 : decode cX5_fair 9 = .ok (.ireturn, 1) := by decide +kernel
theorem dX5_fair_10 : decode cX5_fair 10 = .ok (.aload_n 0, 1) := by decide +kernel
theorem dX5_fair_11 : decode cX5_fair 11 = .ok (.iload_n 1, 1) := by decide +kernel
theorem dX5_fair_12 : decode cX5_fair 12 = .ok (.iload_n 2, 1) := by decide +kernel
theorem dX5_fair_13 : decode cX5_fair 13 = .ok (.invokevirtual 106, 3) := by decide +kernel
theorem dX5_fair_16 : decode cX5_fair 16 = .ok (.ifCond .ne 5, 3) := by decide +kernel
theorem dX5_fair_19 : decode cX5_fair 19 = .ok (.iconst (-1), 1) := by decide +kernel
theorem dX5_fair_20 : decode cX5_fair 20 = .ok (.ireturn, 1) := by decide +kernel
theorem dX5_fair_21 : decode cX5_fair 21 = .ok (.aload_n 0, 1) := by decide +kernel
theorem dX5_fair_22 : decode cX5_fair 22 = .ok (.iload_n 1, 1) := by decide +kernel
theorem dX5_fair_23 : decode cX5_fair 23 = .ok (.iload_n 2, 1) := by decide +kernel
theorem dX5_fair_24 : decode cX5_fair 24 = .ok (.invokevirtual 160, 3) := by decide +kernel
theorem dX5_fair_27 : decode cX5_fair 27 = .ok (.ifCond .eq 10, 3) := by decide +kernel
theorem dX5_fair_30 : decode cX5_fair 30 = .ok (.aload_n 0, 1) := by decide +kernel
theorem dX5_fair_31 : decode cX5_fair 31 = .ok (.getfield 142, 3) := by decide +kernel
theorem dX5_fair_34 : decode cX5_fair 34 = .ok (.goto 5, 3) := by decide +kernel
theorem dX5_fair_37 : decode cX5_fair 37 = .ok (.bipush (-3), 2) := by decide +kernel
theorem dX5_fair_39 : decode cX5_fair 39 = .ok (.ireturn, 1) := by decide +kernel
theorem dX5_round_0 : decode cX5_round 0 = .ok (.iconst 0, 1) := by decide +kernel
theorem dX5_round_1 : decode cX5_round 1 = .ok (.istore_n 1, 1) := by decide +kernel
theorem dX5_round_2 : decode cX5_round 2 = .ok (.iload_n 1, 1) := by decide +kernel
theorem dX5_round_3 : decode cX5_round 3 = .ok (.bipush 63, 2) := by decide +kernel
theorem dX5_round_5 : decode cX5_round 5 = .ok (.if_icmp .ge 21, 3) := by decide +kernel
theorem dX5_round_8 : decode cX5_round 8 = .ok (.aload_n 0, 1) := by decide +kernel
theorem dX5_round_9 : decode cX5_round 9 = .ok (.getfield 45, 3) := by decide +kernel
theorem dX5_round_12 : decode cX5_round 12 = .ok (.iload_n 1, 1) := by decide +kernel
theorem dX5_round_13 : decode cX5_round 13 = .ok (.aload_n 0, 1) := by decide +kernel
theorem dX5_round_14 : decode cX5_round 14 = .ok (.getfield 22, 3) := by decide +kernel
theorem dX5_round_17 : decode cX5_round 17 = .ok (.iload_n 1, 1) := by decide +kernel
theorem dX5_round_18 : decode cX5_round 18 = .ok (.iaload, 1) := by decide +kernel
theorem dX5_round_19 : decode cX5_round 19 = .ok (.iastore, 1) := by decide +kernel
theorem dX5_round_20 : decode cX5_round 20 = .ok (.iinc 1 1, 3) := by decide +kernel
theorem dX5_round_23 : decode cX5_round 23 = .ok (.goto (-21), 3) := by decide +kernel
theorem dX5_round_26 : decode cX5_round 26 = .ok (.iconst 0, 1) := by decide +kernel
theorem dX5_round_27 : decode cX5_round 27 = .ok (.istore_n 1, 1) := by decide +kernel
theorem dX5_round_28 : decode cX5_round 28 = .ok (.iload_n 1, 1) := by decide +kernel
theorem dX5_round_29 : decode cX5_round 29 = .ok (.iconst 2, 1) := by decide +kernel
theorem dX5_round_30 : decode cX5_round 30 = .ok (.if_icmp .ge 33, 3) := by decide +kernel
theorem dX5_round_33 : decode cX5_round 33 = .ok (.iconst 0, 1) := by decide +kernel
theorem dX5_round_34 : decode cX5_round 34 = .ok (.istore_n 2, 1) := by decide +kernel
theorem dX5_round_35 : decode cX5_round 35 = .ok (.iload_n 2, 1) := by decide +kernel
theorem dX5_round_36 : decode cX5_round 36 = .ok (.aload_n 0, 1) := by decide +kernel
theorem dX5_round_37 : decode cX5_round 37 = .ok (.iload_n 1, 1) := by decide +kernel
theorem dX5_round_38 : decode cX5_round 38 = .ok (.invokevirtual 93, 3) := by decide +kernel
theorem dX5_round_41 : decode cX5_round 41 = .ok (.if_icmp .ge 16, 3) := by decide +kernel
theorem dX5_round_44 : decode cX5_round 44 = .ok (.aload_n 0, 1) := by decide +kernel
theorem dX5_round_45 : decode cX5_round 45 = .ok (.iload_n 1, 1) := by decide +kernel
theorem dX5_round_46 : decode cX5_round 46 = .ok (.iload_n 2, 1) := by decide +kernel
theorem dX5_round_47 : decode cX5_round 47 = .ok (.invokevirtual 160, 3) := by decide +kernel
theorem dX5_round_50 : decode cX5_round 50 = .ok (.pop, 1) := by decide +kernel
theorem dX5_round_51 : decode cX5_round 51 = .ok (.iinc 2 1, 3) := by decide +kernel
theorem dX5_round_54 : decode cX5_round 54 = .ok (.goto (-19), 3) := by decide +kernel
theorem dX5_round_57 : decode cX5_round 57 = .ok (.iinc 1 1, 3) := by decide +kernel
theorem dX5_round_60 : decode cX5_round 60 = .ok (.goto (-32), 3) := by decide +kernel
theorem dX5_round_63 : decode cX5_round 63 = .ok (.iconst 0, 1) := by decide +kernel
theorem dX5_round_64 : decode cX5_round 64 = .ok (.istore_n 1, 1) := by decide +kernel
theorem dX5_round_65 : decode cX5_round 65 = .ok (.iconst 0, 1) := by decide +kernel
theorem dX5_round_66 : decode cX5_round 66 = .ok (.istore_n 2, 1) := by decide +kernel
theorem dX5_round_67 : decode cX5_round 67 = .ok (.iload_n 2, 1) := by decide +kernel
theorem dX5_round_68 : decode cX5_round 68 = .ok (.bipush 63, 2) := by decide +kernel
theorem dX5_round_70 : decode cX5_round 70 = .ok (.if_icmp .ge 34, 3) := by decide +kernel
theorem dX5_round_73 : decode cX5_round 73 = .ok (.iload_n 1, 1) := by decide +kernel
theorem dX5_round_74 : decode cX5_round 74 = .ok (.ifCond .ne 18, 3) := by decide +kernel
theorem dX5_round_77 : decode cX5_round 77 = .ok (.aload_n 0, 1) := by decide +kernel
theorem dX5_round_78 : decode cX5_round 78 = .ok (.getfield 45, 3) := by decide +kernel
theorem dX5_round_81 : decode cX5_round 81 = .ok (.iload_n 2, 1) := by decide +kernel
theorem dX5_round_82 : decode cX5_round 82 = .ok (.iaload, 1) := by decide +kernel
theorem dX5_round_83 : decode cX5_round 83 = .ok (.aload_n 0, 1) := by decide +kernel
theorem dX5_round_84 : decode cX5_round 84 = .ok (.getfield 22, 3) := by decide +kernel
theorem dX5_round_87 : decode cX5_round 87 = .ok (.iload_n 2, 1) := by decide +kernel
theorem dX5_round_88 : decode cX5_round 88 = .ok (.iaload, 1) := by decide +kernel
theorem dX5_round_89 : decode cX5_round 89 = .ok (.if_icmp .eq 7, 3) := by decide +kernel
theorem dX5_round_92 : decode cX5_round 92 = .ok (.iconst 1, 1) := by decide +kernel
theorem dX5_round_93 : decode cX5_round 93 = .ok (.goto 4, 3) := by decide +kernel
theorem dX5_round_96 : decode cX5_round 96 = .ok (.iconst 0, 1) := by decide +kernel
theorem dX5_round_97 : decode cX5_round 97 = .ok (.istore_n 1, 1) := by decide +kernel
theorem dX5_round_98 : decode cX5_round 98 = .ok (.iinc 2 1, 3) := by decide +kernel
theorem dX5_round_101 : decode cX5_round 101 = .ok (.goto (-34), 3) := by decide +kernel
theorem dX5_round_104 : decode cX5_round 104 = .ok (.iload_n 1, 1) := by decide +kernel
theorem dX5_round_105 : decode cX5_round 105 = .ok (.ireturn, 1) := by decide +kernel
theorem dX5_rounds_0 : decode cX5_rounds 0 = .ok (.iload_n 1, 1) := by decide +kernel
theorem dX5_rounds_1 : decode cX5_rounds 1 = .ok (.i2l, 1) := by decide +kernel
theorem dX5_rounds_2 : decode cX5_rounds 2 = .ok (.lconst 1, 1) := by decide +kernel
theorem dX5_rounds_3 : decode cX5_rounds 3 = .ok (.ldc2_w 163, 3) := by decide +kernel
theorem dX5_rounds_6 : decode cX5_rounds 6 = .ok (.invokestatic 67, 3) := by decide +kernel
theorem dX5_rounds_9 : decode cX5_rounds 9 = .ok (.ifCond .ne 6, 3) := by decide +kernel
theorem dX5_rounds_12 : decode cX5_rounds 12 = .ok (.bipush (-2), 2) := by decide +kernel
theorem dX5_rounds_14 : decode cX5_rounds 14 = .ok (.ireturn, 1) := by decide +kernel
theorem dX5_rounds_15 : decode cX5_rounds 15 = .ok (.iconst 1, 1) := by decide +kernel
theorem dX5_rounds_16 : decode cX5_rounds 16 = .ok (.istore_n 2, 1) := by decide +kernel
theorem dX5_rounds_17 : decode cX5_rounds 17 = .ok (.aload_n 0, 1) := by decide +kernel
theorem dX5_rounds_18 : decode cX5_rounds 18 = .ok (.invokevirtual 165, 3) := by decide +kernel
theorem dX5_rounds_21 : decode cX5_rounds 21 = .ok (.ifCond .eq 14, 3) := by decide +kernel
theorem dX5_rounds_24 : decode cX5_rounds 24 = .ok (.iload_n 2, 1) := by decide +kernel
theorem dX5_rounds_25 : decode cX5_rounds 25 = .ok (.iload_n 1, 1) := by decide +kernel
theorem dX5_rounds_26 : decode cX5_rounds 26 = .ok (.if_icmp .ge 9, 3) := by decide +kernel
theorem dX5_rounds_29 : decode cX5_rounds 29 = .ok (.iinc 2 1, 3) := by decide +kernel
theorem dX5_rounds_32 : decode cX5_rounds 32 = .ok (.goto (-15), 3) := by decide +kernel
theorem dX5_rounds_35 : decode cX5_rounds 35 = .ok (.iload_n 2, 1) := by decide +kernel
theorem dX5_rounds_36 : decode cX5_rounds 36 = .ok (.ireturn, 1) := by decide +kernel
theorem dX5_back_0 : decode cX5_back 0 = .ok (.iconst 0, 1) := by decide +kernel
theorem dX5_back_1 : decode cX5_back 1 = .ok (.istore_n 1, 1) := by decide +kernel
theorem dX5_back_2 : decode cX5_back 2 = .ok (.iconst 0, 1) := by decide +kernel
theorem dX5_back_3 : decode cX5_back 3 = .ok (.istore_n 2, 1) := by decide +kernel
theorem dX5_back_4 : decode cX5_back 4 = .ok (.iload_n 2, 1) := by decide +kernel
theorem dX5_back_5 : decode cX5_back 5 = .ok (.bipush 63, 2) := by decide +kernel
theorem dX5_back_7 : decode cX5_back 7 = .ok (.if_icmp .ge 44, 3) := by decide +kernel
theorem dX5_back_10 : decode cX5_back 10 = .ok (.iload_n 1, 1) := by decide +kernel
theorem dX5_back_11 : decode cX5_back 11 = .ok (.aload_n 0, 1) := by decide +kernel
theorem dX5_back_12 : decode cX5_back 12 = .ok (.getfield 22, 3) := by decide +kernel
theorem dX5_back_15 : decode cX5_back 15 = .ok (.iload_n 2, 1) := by decide +kernel
theorem dX5_back_16 : decode cX5_back 16 = .ok (.iaload, 1) := by decide +kernel
theorem dX5_back_17 : decode cX5_back 17 = .ok (.aload_n 0, 1) := by decide +kernel
theorem dX5_back_18 : decode cX5_back 18 = .ok (.getfield 26, 3) := by decide +kernel
theorem dX5_back_21 : decode cX5_back 21 = .ok (.iload_n 2, 1) := by decide +kernel
theorem dX5_back_22 : decode cX5_back 22 = .ok (.iaload, 1) := by decide +kernel
theorem dX5_back_23 : decode cX5_back 23 = .ok (.if_icmp .ne 7, 3) := by decide +kernel
theorem dX5_back_26 : decode cX5_back 26 = .ok (.iconst 0, 1) := by decide +kernel
theorem dX5_back_27 : decode cX5_back 27 = .ok (.goto 4, 3) := by decide +kernel
theorem dX5_back_30 : decode cX5_back 30 = .ok (.iconst 1, 1) := by decide +kernel
theorem dX5_back_31 : decode cX5_back 31 = .ok (.iadd, 1) := by decide +kernel
theorem dX5_back_32 : decode cX5_back 32 = .ok (.istore_n 1, 1) := by decide +kernel
theorem dX5_back_33 : decode cX5_back 33 = .ok (.aload_n 0, 1) := by decide +kernel
theorem dX5_back_34 : decode cX5_back 34 = .ok (.getfield 22, 3) := by decide +kernel
theorem dX5_back_37 : decode cX5_back 37 = .ok (.iload_n 2, 1) := by decide +kernel
theorem dX5_back_38 : decode cX5_back 38 = .ok (.aload_n 0, 1) := by decide +kernel
theorem dX5_back_39 : decode cX5_back 39 = .ok (.getfield 26, 3) := by decide +kernel
theorem dX5_back_42 : decode cX5_back 42 = .ok (.iload_n 2, 1) := by decide +kernel
theorem dX5_back_43 : decode cX5_back 43 = .ok (.iaload, 1) := by decide +kernel
theorem dX5_back_44 : decode cX5_back 44 = .ok (.iastore, 1) := by decide +kernel
theorem dX5_back_45 : decode cX5_back 45 = .ok (.iinc 2 1, 3) := by decide +kernel
theorem dX5_back_48 : decode cX5_back 48 = .ok (.goto (-44), 3) := by decide +kernel
theorem dX5_back_51 : decode cX5_back 51 = .ok (.iload_n 1, 1) := by decide +kernel
theorem dX5_back_52 : decode cX5_back 52 = .ok (.ireturn, 1) := by decide +kernel
theorem dX5_sixths_0 : decode cX5_sixths 0 = .ok (.iload_n 1, 1) := by decide +kernel
theorem dX5_sixths_1 : decode cX5_sixths 1 = .ok (.iconst 2, 1) := by decide +kernel
theorem dX5_sixths_2 : decode cX5_sixths 2 = .ok (.irem, 1) := by decide +kernel
theorem dX5_sixths_3 : decode cX5_sixths 3 = .ok (.iconst 1, 1) := by decide +kernel
theorem dX5_sixths_4 : decode cX5_sixths 4 = .ok (.if_icmp .ne 7, 3) := by decide +kernel
theorem dX5_sixths_7 : decode cX5_sixths 7 = .ok (.iload_n 1, 1) := by decide +kernel
theorem dX5_sixths_8 : decode cX5_sixths 8 = .ok (.goto 6, 3) := by decide +kernel
theorem dX5_sixths_11 : decode cX5_sixths 11 = .ok (.iload_n 1, 1) := by decide +kernel
theorem dX5_sixths_12 : decode cX5_sixths 12 = .ok (.iconst 1, 1) := by decide +kernel
theorem dX5_sixths_13 : decode cX5_sixths 13 = .ok (.isub, 1) := by decide +kernel
theorem dX5_sixths_14 : decode cX5_sixths 14 = .ok (.istore_n 2, 1) := by decide +kernel
theorem dX5_sixths_15 : decode cX5_sixths 15 = .ok (.lconst 0, 1) := by decide +kernel
theorem dX5_sixths_16 : decode cX5_sixths 16 = .ok (.lstore_n 3, 1) := by decide +kernel
theorem dX5_sixths_17 : decode cX5_sixths 17 = .ok (.iconst 0, 1) := by decide +kernel
theorem dX5_sixths_18 : decode cX5_sixths 18 = .ok (.istore 5, 2) := by decide +kernel
theorem dX5_sixths_20 : decode cX5_sixths 20 = .ok (.iload 5, 2) := by decide +kernel
theorem dX5_sixths_22 : decode cX5_sixths 22 = .ok (.iload_n 2, 1) := by decide +kernel
theorem dX5_sixths_23 : decode cX5_sixths 23 = .ok (.if_icmp .ge 58, 3) := by decide +kernel
theorem dX5_sixths_26 : decode cX5_sixths 26 = .ok (.lload_n 3, 1) := by decide +kernel
theorem dX5_sixths_27 : decode cX5_sixths 27 = .ok (.ldc2_w 168, 3) := by decide +kernel
theorem dX5_sixths_30 : decode cX5_sixths 30 = .ok (.aload_n 0, 1) := by decide +kernel
theorem dX5_sixths_31 : decode cX5_sixths 31 = .ok (.getfield 48, 3) := by decide +kernel
theorem dX5_sixths_34 : decode cX5_sixths 34 = .ok (.iload 5, 2) := by decide +kernel
theorem dX5_sixths_36 : decode cX5_sixths 36 = .ok (.laload, 1) := by decide +kernel
theorem dX5_sixths_37 : decode cX5_sixths 37 = .ok (.lmul, 1) := by decide +kernel
theorem dX5_sixths_38 : decode cX5_sixths 38 = .ok (.iload 5, 2) := by decide +kernel
theorem dX5_sixths_40 : decode cX5_sixths 40 = .ok (.ifCond .eq 11, 3) := by decide +kernel
theorem dX5_sixths_43 : decode cX5_sixths 43 = .ok (.iload 5, 2) := by decide +kernel
theorem dX5_sixths_45 : decode cX5_sixths 45 = .ok (.iload_n 2, 1) := by decide +kernel
theorem dX5_sixths_46 : decode cX5_sixths 46 = .ok (.iconst 1, 1) := by decide +kernel
theorem dX5_sixths_47 : decode cX5_sixths 47 = .ok (.isub, 1) := by decide +kernel
theorem dX5_sixths_48 : decode cX5_sixths 48 = .ok (.if_icmp .ne 7, 3) := by decide +kernel
theorem dX5_sixths_51 : decode cX5_sixths 51 = .ok (.lconst 1, 1) := by decide +kernel
theorem dX5_sixths_52 : decode cX5_sixths 52 = .ok (.goto 20, 3) := by decide +kernel
theorem dX5_sixths_55 : decode cX5_sixths 55 = .ok (.iload 5, 2) := by decide +kernel
theorem dX5_sixths_57 : decode cX5_sixths 57 = .ok (.iconst 2, 1) := by decide +kernel
theorem dX5_sixths_58 : decode cX5_sixths 58 = .ok (.irem, 1) := by decide +kernel
theorem dX5_sixths_59 : decode cX5_sixths 59 = .ok (.iconst 1, 1) := by decide +kernel
theorem dX5_sixths_60 : decode cX5_sixths 60 = .ok (.if_icmp .ne 9, 3) := by decide +kernel
theorem dX5_sixths_63 : decode cX5_sixths 63 = .ok (.ldc2_w 77, 3) := by decide +kernel
theorem dX5_sixths_66 : decode cX5_sixths 66 = .ok (.goto 6, 3) := by decide +kernel
theorem dX5_sixths_69 : decode cX5_sixths 69 = .ok (.ldc2_w 168, 3) := by decide +kernel
theorem dX5_sixths_72 : decode cX5_sixths 72 = .ok (.lmul, 1) := by decide +kernel
theorem dX5_sixths_73 : decode cX5_sixths 73 = .ok (.ladd, 1) := by decide +kernel
theorem dX5_sixths_74 : decode cX5_sixths 74 = .ok (.lstore_n 3, 1) := by decide +kernel
theorem dX5_sixths_75 : decode cX5_sixths 75 = .ok (.iinc 5 1, 3) := by decide +kernel
theorem dX5_sixths_78 : decode cX5_sixths 78 = .ok (.goto (-58), 3) := by decide +kernel
theorem dX5_sixths_81 : decode cX5_sixths 81 = .ok (.iload_n 2, 1) := by decide +kernel
theorem dX5_sixths_82 : decode cX5_sixths 82 = .ok (.iload_n 1, 1) := by decide +kernel
theorem dX5_sixths_83 : decode cX5_sixths 83 = .ok (.if_icmp .ne 7, 3) := by decide +kernel
theorem dX5_sixths_86 : decode cX5_sixths 86 = .ok (.lload_n 3, 1) := by decide +kernel
theorem dX5_sixths_87 : decode cX5_sixths 87 = .ok (.goto 26, 3) := by decide +kernel
theorem dX5_sixths_90 : decode cX5_sixths 90 = .ok (.lload_n 3, 1) := by decide +kernel
theorem dX5_sixths_91 : decode cX5_sixths 91 = .ok (.ldc2_w 89, 3) := by decide +kernel
theorem dX5_sixths_94 : decode cX5_sixths 94 = .ok (.aload_n 0, 1) := by decide +kernel
theorem dX5_sixths_95 : decode cX5_sixths 95 = .ok (.getfield 48, 3) := by decide +kernel
theorem dX5_sixths_98 : decode cX5_sixths 98 = .ok (.iload_n 1, 1) := by decide +kernel
theorem dX5_sixths_99 : decode cX5_sixths 99 = .ok (.iconst 2, 1) := by decide +kernel
theorem dX5_sixths_100 : decode cX5_sixths 100 = .ok (.isub, 1) := by decide +kernel
theorem dX5_sixths_101 : decode cX5_sixths 101 = .ok (.laload, 1) := by decide +kernel
theorem dX5_sixths_102 : decode cX5_sixths 102 = .ok (.aload_n 0, 1) := by decide +kernel
theorem dX5_sixths_103 : decode cX5_sixths 103 = .ok (.getfield 48, 3) := by decide +kernel
theorem dX5_sixths_106 : decode cX5_sixths 106 = .ok (.iload_n 1, 1) := by decide +kernel
theorem dX5_sixths_107 : decode cX5_sixths 107 = .ok (.iconst 1, 1) := by decide +kernel
theorem dX5_sixths_108 : decode cX5_sixths 108 = .ok (.isub, 1) := by decide +kernel
theorem dX5_sixths_109 : decode cX5_sixths 109 = .ok (.laload, 1) := by decide +kernel
theorem dX5_sixths_110 : decode cX5_sixths 110 = .ok (.ladd, 1) := by decide +kernel
theorem dX5_sixths_111 : decode cX5_sixths 111 = .ok (.lmul, 1) := by decide +kernel
theorem dX5_sixths_112 : decode cX5_sixths 112 = .ok (.ladd, 1) := by decide +kernel
theorem dX5_sixths_113 : decode cX5_sixths 113 = .ok (.lreturn, 1) := by decide +kernel
theorem dX5_told_0 : decode cX5_told 0 = .ok (.lload_n 0, 1) := by decide +kernel
theorem dX5_told_1 : decode cX5_told 1 = .ok (.lconst 0, 1) := by decide +kernel
theorem dX5_told_2 : decode cX5_told 2 = .ok (.lcmp, 1) := by decide +kernel
theorem dX5_told_3 : decode cX5_told 3 = .ok (.ifCond .ge 8, 3) := by decide +kernel
theorem dX5_told_6 : decode cX5_told 6 = .ok (.lload_n 0, 1) := by decide +kernel
theorem dX5_told_7 : decode cX5_told 7 = .ok (.lneg, 1) := by decide +kernel
theorem dX5_told_8 : decode cX5_told 8 = .ok (.goto 4, 3) := by decide +kernel
theorem dX5_told_11 : decode cX5_told 11 = .ok (.lload_n 0, 1) := by decide +kernel
theorem dX5_told_12 : decode cX5_told 12 = .ok (.lstore 5, 2) := by decide +kernel
theorem dX5_told_14 : decode cX5_told 14 = .ok (.lload_n 2, 1) := by decide +kernel
end
section
theorem dX5_told_15 : decode cX5_told 15 = .ok (.lstore 7, 2) := by decide +kernel
theorem dX5_told_17 : decode cX5_told 17 = .ok (.lload 7, 2) := by decide +kernel
theorem dX5_told_19 : decode cX5_told 19 = .ok (.lconst 0, 1) := by decide +kernel
theorem dX5_told_20 : decode cX5_told 20 = .ok (.lcmp, 1) := by decide +kernel
theorem dX5_told_21 : decode cX5_told 21 = .ok (.ifCond .eq 21, 3) := by decide +kernel
theorem dX5_told_24 : decode cX5_told 24 = .ok (.lload 5, 2) := by decide +kernel
theorem dX5_told_26 : decode cX5_told 26 = .ok (.lload 7, 2) := by decide +kernel
theorem dX5_told_28 : decode cX5_told 28 = .ok (.lrem, 1) := by decide +kernel
theorem dX5_told_29 : decode cX5_told 29 = .ok (.lstore 9, 2) := by decide +kernel
theorem dX5_told_31 : decode cX5_told 31 = .ok (.lload 7, 2) := by decide +kernel
theorem dX5_told_33 : decode cX5_told 33 = .ok (.lstore 5, 2) := by decide +kernel
theorem dX5_told_35 : decode cX5_told 35 = .ok (.lload 9, 2) := by decide +kernel
theorem dX5_told_37 : decode cX5_told 37 = .ok (.lstore 7, 2) := by decide +kernel
theorem dX5_told_39 : decode cX5_told 39 = .ok (.goto (-22), 3) := by decide +kernel
theorem dX5_told_42 : decode cX5_told 42 = .ok (.iload 4, 2) := by decide +kernel
theorem dX5_told_44 : decode cX5_told 44 = .ok (.ifCond .ne 10, 3) := by decide +kernel
theorem dX5_told_47 : decode cX5_told 47 = .ok (.lload_n 0, 1) := by decide +kernel
theorem dX5_told_48 : decode cX5_told 48 = .ok (.lload 5, 2) := by decide +kernel
theorem dX5_told_50 : decode cX5_told 50 = .ok (.ldiv, 1) := by decide +kernel
theorem dX5_told_51 : decode cX5_told 51 = .ok (.goto 7, 3) := by decide +kernel
theorem dX5_told_54 : decode cX5_told 54 = .ok (.lload_n 2, 1) := by decide +kernel
theorem dX5_told_55 : decode cX5_told 55 = .ok (.lload 5, 2) := by decide +kernel
theorem dX5_told_57 : decode cX5_told 57 = .ok (.ldiv, 1) := by decide +kernel
theorem dX5_told_58 : decode cX5_told 58 = .ok (.lreturn, 1) := by decide +kernel
theorem dX5_isWhich_0 : decode cX5_isWhich 0 = .ok (.iload_n 0, 1) := by decide +kernel
theorem dX5_isWhich_1 : decode cX5_isWhich 1 = .ok (.ifCond .eq 8, 3) := by decide +kernel
theorem dX5_isWhich_4 : decode cX5_isWhich 4 = .ok (.iload_n 0, 1) := by decide +kernel
theorem dX5_isWhich_5 : decode cX5_isWhich 5 = .ok (.iconst 1, 1) := by decide +kernel
theorem dX5_isWhich_6 : decode cX5_isWhich 6 = .ok (.if_icmp .ne 7, 3) := by decide +kernel
theorem dX5_isWhich_9 : decode cX5_isWhich 9 = .ok (.iconst 1, 1) := by decide +kernel
theorem dX5_isWhich_10 : decode cX5_isWhich 10 = .ok (.goto 4, 3) := by decide +kernel
theorem dX5_isWhich_13 : decode cX5_isWhich 13 = .ok (.iconst 0, 1) := by decide +kernel
theorem dX5_isWhich_14 : decode cX5_isWhich 14 = .ok (.ireturn, 1) := by decide +kernel
theorem dX5_sumOf_0 : decode cX5_sumOf 0 = .ok (.aload_n 0, 1) := by decide +kernel
theorem dX5_sumOf_1 : decode cX5_sumOf 1 = .ok (.iload_n 1, 1) := by decide +kernel
theorem dX5_sumOf_2 : decode cX5_sumOf 2 = .ok (.iload_n 2, 1) := by decide +kernel
theorem dX5_sumOf_3 : decode cX5_sumOf 3 = .ok (.invokevirtual 109, 3) := by decide +kernel
theorem dX5_sumOf_6 : decode cX5_sumOf 6 = .ok (.iconst 0, 1) := by decide +kernel
theorem dX5_sumOf_7 : decode cX5_sumOf 7 = .ok (.istore_n 3, 1) := by decide +kernel
theorem dX5_sumOf_8 : decode cX5_sumOf 8 = .ok (.iload_n 3, 1) := by decide +kernel
theorem dX5_sumOf_9 : decode cX5_sumOf 9 = .ok (.aload_n 0, 1) := by decide +kernel
theorem dX5_sumOf_10 : decode cX5_sumOf 10 = .ok (.getfield 97, 3) := by decide +kernel
theorem dX5_sumOf_13 : decode cX5_sumOf 13 = .ok (.if_icmp .ge 22, 3) := by decide +kernel
theorem dX5_sumOf_16 : decode cX5_sumOf 16 = .ok (.aload_n 0, 1) := by decide +kernel
theorem dX5_sumOf_17 : decode cX5_sumOf 17 = .ok (.getfield 48, 3) := by decide +kernel
theorem dX5_sumOf_20 : decode cX5_sumOf 20 = .ok (.iload_n 3, 1) := by decide +kernel
theorem dX5_sumOf_21 : decode cX5_sumOf 21 = .ok (.aload_n 0, 1) := by decide +kernel
theorem dX5_sumOf_22 : decode cX5_sumOf 22 = .ok (.getfield 36, 3) := by decide +kernel
theorem dX5_sumOf_25 : decode cX5_sumOf 25 = .ok (.iload_n 3, 1) := by decide +kernel
theorem dX5_sumOf_26 : decode cX5_sumOf 26 = .ok (.iaload, 1) := by decide +kernel
theorem dX5_sumOf_27 : decode cX5_sumOf 27 = .ok (.i2l, 1) := by decide +kernel
theorem dX5_sumOf_28 : decode cX5_sumOf 28 = .ok (.lastore, 1) := by decide +kernel
theorem dX5_sumOf_29 : decode cX5_sumOf 29 = .ok (.iinc 3 1, 3) := by decide +kernel
theorem dX5_sumOf_32 : decode cX5_sumOf 32 = .ok (.goto (-24), 3) := by decide +kernel
theorem dX5_sumOf_35 : decode cX5_sumOf 35 = .ok (.aload_n 0, 1) := by decide +kernel
theorem dX5_sumOf_36 : decode cX5_sumOf 36 = .ok (.aload_n 0, 1) := by decide +kernel
theorem dX5_sumOf_37 : decode cX5_sumOf 37 = .ok (.getfield 97, 3) := by decide +kernel
theorem dX5_sumOf_40 : decode cX5_sumOf 40 = .ok (.invokevirtual 170, 3) := by decide +kernel
theorem dX5_sumOf_43 : decode cX5_sumOf 43 = .ok (.lreturn, 1) := by decide +kernel
theorem dX5_area_0 : decode cX5_area 0 = .ok (.iload_n 1, 1) := by decide +kernel
theorem dX5_area_1 : decode cX5_area 1 = .ok (.invokestatic 103, 3) := by decide +kernel
theorem dX5_area_4 : decode cX5_area 4 = .ok (.ifCond .eq 19, 3) := by decide +kernel
theorem dX5_area_7 : decode cX5_area 7 = .ok (.aload_n 0, 1) := by decide +kernel
theorem dX5_area_8 : decode cX5_area 8 = .ok (.iload_n 1, 1) := by decide +kernel
theorem dX5_area_9 : decode cX5_area 9 = .ok (.iload_n 2, 1) := by decide +kernel
theorem dX5_area_10 : decode cX5_area 10 = .ok (.invokevirtual 106, 3) := by decide +kernel
theorem dX5_area_13 : decode cX5_area 13 = .ok (.ifCond .eq 10, 3) := by decide +kernel
theorem dX5_area_16 : decode cX5_area 16 = .ok (.iload_n 3, 1) := by decide +kernel
theorem dX5_area_17 : decode cX5_area 17 = .ok (.invokestatic 174, 3) := by decide +kernel
theorem dX5_area_20 : decode cX5_area 20 = .ok (.ifCond .ne 7, 3) := by decide +kernel
theorem dX5_area_23 : decode cX5_area 23 = .ok (.ldc2_w 177, 3) := by decide +kernel
theorem dX5_area_26 : decode cX5_area 26 = .ok (.lreturn, 1) := by decide +kernel
theorem dX5_area_27 : decode cX5_area 27 = .ok (.aload_n 0, 1) := by decide +kernel
theorem dX5_area_28 : decode cX5_area 28 = .ok (.iload_n 1, 1) := by decide +kernel
theorem dX5_area_29 : decode cX5_area 29 = .ok (.iload_n 2, 1) := by decide +kernel
theorem dX5_area_30 : decode cX5_area 30 = .ok (.invokevirtual 179, 3) := by decide +kernel
theorem dX5_area_33 : decode cX5_area 33 = .ok (.iload_n 1, 1) := by decide +kernel
theorem dX5_area_34 : decode cX5_area 34 = .ok (.ifCond .ne 10, 3) := by decide +kernel
theorem dX5_area_37 : decode cX5_area 37 = .ok (.aload_n 0, 1) := by decide +kernel
theorem dX5_area_38 : decode cX5_area 38 = .ok (.getfield 16, 3) := by decide +kernel
theorem dX5_area_41 : decode cX5_area 41 = .ok (.goto 7, 3) := by decide +kernel
theorem dX5_area_44 : decode cX5_area 44 = .ok (.aload_n 0, 1) := by decide +kernel
theorem dX5_area_45 : decode cX5_area 45 = .ok (.getfield 19, 3) := by decide +kernel
theorem dX5_area_48 : decode cX5_area 48 = .ok (.i2l, 1) := by decide +kernel
theorem dX5_area_49 : decode cX5_area 49 = .ok (.lmul, 1) := by decide +kernel
theorem dX5_area_50 : decode cX5_area 50 = .ok (.ldc2_w 183, 3) := by decide +kernel
theorem dX5_area_53 : decode cX5_area 53 = .ok (.iload_n 3, 1) := by decide +kernel
theorem dX5_area_54 : decode cX5_area 54 = .ok (.invokestatic 185, 3) := by decide +kernel
theorem dX5_area_57 : decode cX5_area 57 = .ok (.lreturn, 1) := by decide +kernel
theorem dX5_centre_0 : decode cX5_centre 0 = .ok (.iload_n 1, 1) := by decide +kernel
theorem dX5_centre_1 : decode cX5_centre 1 = .ok (.invokestatic 103, 3) := by decide +kernel
theorem dX5_centre_4 : decode cX5_centre 4 = .ok (.ifCond .eq 19, 3) := by decide +kernel
theorem dX5_centre_7 : decode cX5_centre 7 = .ok (.aload_n 0, 1) := by decide +kernel
theorem dX5_centre_8 : decode cX5_centre 8 = .ok (.iload_n 1, 1) := by decide +kernel
theorem dX5_centre_9 : decode cX5_centre 9 = .ok (.iload_n 2, 1) := by decide +kernel
theorem dX5_centre_10 : decode cX5_centre 10 = .ok (.invokevirtual 106, 3) := by decide +kernel
theorem dX5_centre_13 : decode cX5_centre 13 = .ok (.ifCond .eq 10, 3) := by decide +kernel
theorem dX5_centre_16 : decode cX5_centre 16 = .ok (.iload_n 3, 1) := by decide +kernel
theorem dX5_centre_17 : decode cX5_centre 17 = .ok (.invokestatic 174, 3) := by decide +kernel
theorem dX5_centre_20 : decode cX5_centre 20 = .ok (.ifCond .ne 7, 3) := by decide +kernel
theorem dX5_centre_23 : decode cX5_centre 23 = .ok (.ldc2_w 177, 3) := by decide +kernel
theorem dX5_centre_26 : decode cX5_centre 26 = .ok (.lreturn, 1) := by decide +kernel
theorem dX5_centre_27 : decode cX5_centre 27 = .ok (.aload_n 0, 1) := by decide +kernel
theorem dX5_centre_28 : decode cX5_centre 28 = .ok (.iload_n 1, 1) := by decide +kernel
theorem dX5_centre_29 : decode cX5_centre 29 = .ok (.iload_n 2, 1) := by decide +kernel
theorem dX5_centre_30 : decode cX5_centre 30 = .ok (.invokevirtual 179, 3) := by decide +kernel
theorem dX5_centre_33 : decode cX5_centre 33 = .ok (.lstore 4, 2) := by decide +kernel
theorem dX5_centre_35 : decode cX5_centre 35 = .ok (.lload 4, 2) := by decide +kernel
theorem dX5_centre_37 : decode cX5_centre 37 = .ok (.lconst 0, 1) := by decide +kernel
theorem dX5_centre_38 : decode cX5_centre 38 = .ok (.lcmp, 1) := by decide +kernel
theorem dX5_centre_39 : decode cX5_centre 39 = .ok (.ifCond .ne 7, 3) := by decide +kernel
theorem dX5_centre_42 : decode cX5_centre 42 = .ok (.ldc2_w 177, 3) := by decide +kernel
theorem dX5_centre_45 : decode cX5_centre 45 = .ok (.lreturn, 1) := by decide +kernel
theorem dX5_centre_46 : decode cX5_centre 46 = .ok (.iconst 0, 1) := by decide +kernel
theorem dX5_centre_47 : decode cX5_centre 47 = .ok (.istore 6, 2) := by decide +kernel
theorem dX5_centre_49 : decode cX5_centre 49 = .ok (.iload 6, 2) := by decide +kernel
theorem dX5_centre_51 : decode cX5_centre 51 = .ok (.aload_n 0, 1) := by decide +kernel
theorem dX5_centre_52 : decode cX5_centre 52 = .ok (.getfield 97, 3) := by decide +kernel
theorem dX5_centre_55 : decode cX5_centre 55 = .ok (.if_icmp .ge 28, 3) := by decide +kernel
theorem dX5_centre_58 : decode cX5_centre 58 = .ok (.aload_n 0, 1) := by decide +kernel
theorem dX5_centre_59 : decode cX5_centre 59 = .ok (.getfield 48, 3) := by decide +kernel
theorem dX5_centre_62 : decode cX5_centre 62 = .ok (.iload 6, 2) := by decide +kernel
theorem dX5_centre_64 : decode cX5_centre 64 = .ok (.aload_n 0, 1) := by decide +kernel
theorem dX5_centre_65 : decode cX5_centre 65 = .ok (.getfield 36, 3) := by decide +kernel
theorem dX5_centre_68 : decode cX5_centre 68 = .ok (.iload 6, 2) := by decide +kernel
theorem dX5_centre_70 : decode cX5_centre 70 = .ok (.iaload, 1) := by decide +kernel
theorem dX5_centre_71 : decode cX5_centre 71 = .ok (.i2l, 1) := by decide +kernel
theorem dX5_centre_72 : decode cX5_centre 72 = .ok (.iload 6, 2) := by decide +kernel
theorem dX5_centre_74 : decode cX5_centre 74 = .ok (.i2l, 1) := by decide +kernel
theorem dX5_centre_75 : decode cX5_centre 75 = .ok (.lmul, 1) := by decide +kernel
theorem dX5_centre_76 : decode cX5_centre 76 = .ok (.lastore, 1) := by decide +kernel
theorem dX5_centre_77 : decode cX5_centre 77 = .ok (.iinc 6 1, 3) := by decide +kernel
theorem dX5_centre_80 : decode cX5_centre 80 = .ok (.goto (-31), 3) := by decide +kernel
theorem dX5_centre_83 : decode cX5_centre 83 = .ok (.aload_n 0, 1) := by decide +kernel
theorem dX5_centre_84 : decode cX5_centre 84 = .ok (.aload_n 0, 1) := by decide +kernel
theorem dX5_centre_85 : decode cX5_centre 85 = .ok (.getfield 97, 3) := by decide +kernel
theorem dX5_centre_88 : decode cX5_centre 88 = .ok (.invokevirtual 170, 3) := by decide +kernel
theorem dX5_centre_91 : decode cX5_centre 91 = .ok (.lload 4, 2) := by decide +kernel
theorem dX5_centre_93 : decode cX5_centre 93 = .ok (.iload_n 3, 1) := by decide +kernel
theorem dX5_centre_94 : decode cX5_centre 94 = .ok (.invokestatic 185, 3) := by decide +kernel
theorem dX5_centre_97 : decode cX5_centre 97 = .ok (.lreturn, 1) := by decide +kernel
theorem dX5_volume_0 : decode cX5_volume 0 = .ok (.iload_n 1, 1) := by decide +kernel
theorem dX5_volume_1 : decode cX5_volume 1 = .ok (.invokestatic 103, 3) := by decide +kernel
theorem dX5_volume_4 : decode cX5_volume 4 = .ok (.ifCond .eq 10, 3) := by decide +kernel
theorem dX5_volume_7 : decode cX5_volume 7 = .ok (.iload_n 2, 1) := by decide +kernel
theorem dX5_volume_8 : decode cX5_volume 8 = .ok (.invokestatic 174, 3) := by decide +kernel
theorem dX5_volume_11 : decode cX5_volume 11 = .ok (.ifCond .ne 7, 3) := by decide +kernel
theorem dX5_volume_14 : decode cX5_volume 14 = .ok (.ldc2_w 177, 3) := by decide +kernel
theorem dX5_volume_17 : decode cX5_volume 17 = .ok (.lreturn, 1) := by decide +kernel
theorem dX5_volume_18 : decode cX5_volume 18 = .ok (.aload_n 0, 1) := by decide +kernel
theorem dX5_volume_19 : decode cX5_volume 19 = .ok (.iload_n 1, 1) := by decide +kernel
theorem dX5_volume_20 : decode cX5_volume 20 = .ok (.invokevirtual 93, 3) := by decide +kernel
theorem dX5_volume_23 : decode cX5_volume 23 = .ok (.istore_n 3, 1) := by decide +kernel
theorem dX5_volume_24 : decode cX5_volume 24 = .ok (.iconst 0, 1) := by decide +kernel
theorem dX5_volume_25 : decode cX5_volume 25 = .ok (.istore 4, 2) := by decide +kernel
theorem dX5_volume_27 : decode cX5_volume 27 = .ok (.iload 4, 2) := by decide +kernel
theorem dX5_volume_29 : decode cX5_volume 29 = .ok (.iload_n 3, 1) := by decide +kernel
theorem dX5_volume_30 : decode cX5_volume 30 = .ok (.if_icmp .ge 23, 3) := by decide +kernel
theorem dX5_volume_33 : decode cX5_volume 33 = .ok (.aload_n 0, 1) := by decide +kernel
theorem dX5_volume_34 : decode cX5_volume 34 = .ok (.getfield 52, 3) := by decide +kernel
theorem dX5_volume_37 : decode cX5_volume 37 = .ok (.iload 4, 2) := by decide +kernel
theorem dX5_volume_39 : decode cX5_volume 39 = .ok (.aload_n 0, 1) := by decide +kernel
theorem dX5_volume_40 : decode cX5_volume 40 = .ok (.iload_n 1, 1) := by decide +kernel
theorem dX5_volume_41 : decode cX5_volume 41 = .ok (.iload 4, 2) := by decide +kernel
theorem dX5_volume_43 : decode cX5_volume 43 = .ok (.invokevirtual 179, 3) := by decide +kernel
theorem dX5_volume_46 : decode cX5_volume 46 = .ok (.lastore, 1) := by decide +kernel
theorem dX5_volume_47 : decode cX5_volume 47 = .ok (.iinc 4 1, 3) := by decide +kernel
theorem dX5_volume_50 : decode cX5_volume 50 = .ok (.goto (-23), 3) := by decide +kernel
theorem dX5_volume_53 : decode cX5_volume 53 = .ok (.iconst 0, 1) := by decide +kernel
theorem dX5_volume_54 : decode cX5_volume 54 = .ok (.istore 4, 2) := by decide +kernel
theorem dX5_volume_56 : decode cX5_volume 56 = .ok (.iload 4, 2) := by decide +kernel
theorem dX5_volume_58 : decode cX5_volume 58 = .ok (.iload_n 3, 1) := by decide +kernel
theorem dX5_volume_59 : decode cX5_volume 59 = .ok (.if_icmp .ge 23, 3) := by decide +kernel
theorem dX5_volume_62 : decode cX5_volume 62 = .ok (.aload_n 0, 1) := by decide +kernel
theorem dX5_volume_63 : decode cX5_volume 63 = .ok (.getfield 48, 3) := by decide +kernel
theorem dX5_volume_66 : decode cX5_volume 66 = .ok (.iload 4, 2) := by decide +kernel
theorem dX5_volume_68 : decode cX5_volume 68 = .ok (.aload_n 0, 1) := by decide +kernel
theorem dX5_volume_69 : decode cX5_volume 69 = .ok (.getfield 52, 3) := by decide +kernel
theorem dX5_volume_72 : decode cX5_volume 72 = .ok (.iload 4, 2) := by decide +kernel
theorem dX5_volume_74 : decode cX5_volume 74 = .ok (.laload, 1) := by decide +kernel
theorem dX5_volume_75 : decode cX5_volume 75 = .ok (.lastore, 1) := by decide +kernel
theorem dX5_volume_76 : decode cX5_volume 76 = .ok (.iinc 4 1, 3) := by decide +kernel
theorem dX5_volume_79 : decode cX5_volume 79 = .ok (.goto (-23), 3) := by decide +kernel
theorem dX5_volume_82 : decode cX5_volume 82 = .ok (.aload_n 0, 1) := by decide +kernel
theorem dX5_volume_83 : decode cX5_volume 83 = .ok (.iload_n 3, 1) := by decide +kernel
theorem dX5_volume_84 : decode cX5_volume 84 = .ok (.invokevirtual 170, 3) := by decide +kernel
theorem dX5_volume_87 : decode cX5_volume 87 = .ok (.aload_n 0, 1) := by decide +kernel
theorem dX5_volume_88 : decode cX5_volume 88 = .ok (.getfield 16, 3) := by decide +kernel
theorem dX5_volume_91 : decode cX5_volume 91 = .ok (.i2l, 1) := by decide +kernel
theorem dX5_volume_92 : decode cX5_volume 92 = .ok (.lmul, 1) := by decide +kernel
theorem dX5_volume_93 : decode cX5_volume 93 = .ok (.aload_n 0, 1) := by decide +kernel
theorem dX5_volume_94 : decode cX5_volume 94 = .ok (.getfield 19, 3) := by decide +kernel
theorem dX5_volume_97 : decode cX5_volume 97 = .ok (.i2l, 1) := by decide +kernel
theorem dX5_volume_98 : decode cX5_volume 98 = .ok (.lmul, 1) := by decide +kernel
theorem dX5_volume_99 : decode cX5_volume 99 = .ok (.ldc2_w 189, 3) := by decide +kernel
theorem dX5_volume_102 : decode cX5_volume 102 = .ok (.iload_n 2, 1) := by decide +kernel
theorem dX5_volume_103 : decode cX5_volume 103 = .ok (.invokestatic 185, 3) := by decide +kernel
theorem dX5_volume_106 : decode cX5_volume 106 = .ok (.lreturn, 1) := by decide +kernel
theorem dX5_findHeight_0 : decode cX5_findHeight 0 = .ok (.iconst 0, 1) := by decide +kernel
theorem dX5_findHeight_1 : decode cX5_findHeight 1 = .ok (.istore_n 3, 1) := by decide +kernel
theorem dX5_findHeight_2 : decode cX5_findHeight 2 = .ok (.iload_n 3, 1) := by decide +kernel
theorem dX5_findHeight_3 : decode cX5_findHeight 3 = .ok (.aload_n 0, 1) := by decide +kernel
theorem dX5_findHeight_4 : decode cX5_findHeight 4 = .ok (.getfield 64, 3) := by decide +kernel
theorem dX5_findHeight_7 : decode cX5_findHeight 7 = .ok (.if_icmp .ge 99, 3) := by decide +kernel
theorem dX5_findHeight_10 : decode cX5_findHeight 10 = .ok (.aload_n 0, 1) := by decide +kernel
theorem dX5_findHeight_11 : decode cX5_findHeight 11 = .ok (.getfield 22, 3) := by decide +kernel
theorem dX5_findHeight_14 : decode cX5_findHeight 14 = .ok (.bipush 7, 2) := by decide +kernel
theorem dX5_findHeight_16 : decode cX5_findHeight 16 = .ok (.iload_n 1, 1) := by decide +kernel
theorem dX5_findHeight_17 : decode cX5_findHeight 17 = .ok (.imul, 1) := by decide +kernel
theorem dX5_findHeight_18 : decode cX5_findHeight 18 = .ok (.iload_n 3, 1) := by decide +kernel
theorem dX5_findHeight_19 : decode cX5_findHeight 19 = .ok (.iadd, 1) := by decide +kernel
theorem dX5_findHeight_20 : decode cX5_findHeight 20 = .ok (.iaload, 1) := by decide +kernel
theorem dX5_findHeight_21 : decode cX5_findHeight 21 = .ok (.istore 4, 2) := by decide +kernel
theorem dX5_findHeight_23 : decode cX5_findHeight 23 = .ok (.iload 4, 2) := by decide +kernel
theorem dX5_findHeight_25 : decode cX5_findHeight 25 = .ok (.iload_n 2, 1) := by decide +kernel
theorem dX5_findHeight_26 : decode cX5_findHeight 26 = .ok (.if_icmp .lt 74, 3) := by decide +kernel
theorem dX5_findHeight_29 : decode cX5_findHeight 29 = .ok (.iload_n 3, 1) := by decide +kernel
theorem dX5_findHeight_30 : decode cX5_findHeight 30 = .ok (.ifCond .ne 7, 3) := by decide +kernel
theorem dX5_findHeight_33 : decode cX5_findHeight 33 = .ok (.iconst 0, 1) := by decide +kernel
theorem dX5_findHeight_34 : decode cX5_findHeight 34 = .ok (.goto 16, 3) := by decide +kernel
theorem dX5_findHeight_37 : decode cX5_findHeight 37 = .ok (.aload_n 0, 1) := by decide +kernel
theorem dX5_findHeight_38 : decode cX5_findHeight 38 = .ok (.getfield 22, 3) := by decide +kernel
theorem dX5_findHeight_41 : decode cX5_findHeight 41 = .ok (.bipush 7, 2) := by decide +kernel
theorem dX5_findHeight_43 : decode cX5_findHeight 43 = .ok (.iload_n 1, 1) := by decide +kernel
theorem dX5_findHeight_44 : decode cX5_findHeight 44 = .ok (.imul, 1) := by decide +kernel
theorem dX5_findHeight_45 : decode cX5_findHeight 45 = .ok (.iload_n 3, 1) := by decide +kernel
theorem dX5_findHeight_46 : decode cX5_findHeight 46 = .ok (.iadd, 1) := by decide +kernel
theorem dX5_findHeight_47 : decode cX5_findHeight 47 = .ok (.iconst 1, 1) := by decide +kernel
theorem dX5_findHeight_48 : decode cX5_findHeight 48 = .ok (.isub, 1) := by decide +kernel
theorem dX5_findHeight_49 : decode cX5_findHeight 49 = .ok (.iaload, 1) := by decide +kernel
theorem dX5_findHeight_50 : decode cX5_findHeight 50 = .ok (.istore 5, 2) := by decide +kernel
theorem dX5_findHeight_52 : decode cX5_findHeight 52 = .ok (.aload_n 0, 1) := by decide +kernel
theorem dX5_findHeight_53 : decode cX5_findHeight 53 = .ok (.iload_n 3, 1) := by decide +kernel
theorem dX5_findHeight_54 : decode cX5_findHeight 54 = .ok (.ifCond .ne 7, 3) := by decide +kernel
theorem dX5_findHeight_57 : decode cX5_findHeight 57 = .ok (.lconst 1, 1) := by decide +kernel
theorem dX5_findHeight_58 : decode cX5_findHeight 58 = .ok (.goto 9, 3) := by decide +kernel
theorem dX5_findHeight_61 : decode cX5_findHeight 61 = .ok (.iload 4, 2) := by decide +kernel
theorem dX5_findHeight_63 : decode cX5_findHeight 63 = .ok (.iload 5, 2) := by decide +kernel
theorem dX5_findHeight_65 : decode cX5_findHeight 65 = .ok (.isub, 1) := by decide +kernel
theorem dX5_findHeight_66 : decode cX5_findHeight 66 = .ok (.i2l, 1) := by decide +kernel
theorem dX5_findHeight_67 : decode cX5_findHeight 67 = .ok (.putfield 191, 3) := by decide +kernel
theorem dX5_findHeight_70 : decode cX5_findHeight 70 = .ok (.aload_n 0, 1) := by decide +kernel
theorem dX5_findHeight_71 : decode cX5_findHeight 71 = .ok (.iload_n 3, 1) := by decide +kernel
theorem dX5_findHeight_72 : decode cX5_findHeight 72 = .ok (.ifCond .ne 7, 3) := by decide +kernel
theorem dX5_findHeight_75 : decode cX5_findHeight 75 = .ok (.lconst 0, 1) := by decide +kernel
theorem dX5_findHeight_76 : decode cX5_findHeight 76 = .ok (.goto 19, 3) := by decide +kernel
theorem dX5_findHeight_79 : decode cX5_findHeight 79 = .ok (.iload_n 3, 1) := by decide +kernel
theorem dX5_findHeight_80 : decode cX5_findHeight 80 = .ok (.i2l, 1) := by decide +kernel
theorem dX5_findHeight_81 : decode cX5_findHeight 81 = .ok (.lconst 1, 1) := by decide +kernel
theorem dX5_findHeight_82 : decode cX5_findHeight 82 = .ok (.lsub, 1) := by decide +kernel
theorem dX5_findHeight_83 : decode cX5_findHeight 83 = .ok (.aload_n 0, 1) := by decide +kernel
theorem dX5_findHeight_84 : decode cX5_findHeight 84 = .ok (.getfield 191, 3) := by decide +kernel
theorem dX5_findHeight_87 : decode cX5_findHeight 87 = .ok (.lmul, 1) := by decide +kernel
theorem dX5_findHeight_88 : decode cX5_findHeight 88 = .ok (.iload_n 2, 1) := by decide +kernel
theorem dX5_findHeight_89 : decode cX5_findHeight 89 = .ok (.i2l, 1) := by decide +kernel
theorem dX5_findHeight_90 : decode cX5_findHeight 90 = .ok (.ladd, 1) := by decide +kernel
theorem dX5_findHeight_91 : decode cX5_findHeight 91 = .ok (.iload 5, 2) := by decide +kernel
theorem dX5_findHeight_93 : decode cX5_findHeight 93 = .ok (.i2l, 1) := by decide +kernel
theorem dX5_findHeight_94 : decode cX5_findHeight 94 = .ok (.lsub, 1) := by decide +kernel
theorem dX5_findHeight_95 : decode cX5_findHeight 95 = .ok (.putfield 195, 3) := by decide +kernel
theorem dX5_findHeight_98 : decode cX5_findHeight 98 = .ok (.iconst 1, 1) := by decide +kernel
theorem dX5_findHeight_99 : decode cX5_findHeight 99 = .ok (.ireturn, 1) := by decide +kernel
theorem dX5_findHeight_100 : decode cX5_findHeight 100 = .ok (.iinc 3 1, 3) := by decide +kernel
theorem dX5_findHeight_103 : decode cX5_findHeight 103 = .ok (.goto (-101), 3) := by decide +kernel
theorem dX5_findHeight_106 : decode cX5_findHeight 106 = .ok (.iconst 0, 1) := by decide +kernel
theorem dX5_findHeight_107 : decode cX5_findHeight 107 = .ok (.ireturn, 1) := by decide +kernel
theorem dX5_isBreadth_0 : decode cX5_isBreadth 0 = .ok (.iload_n 0, 1) := by decide +kernel
theorem dX5_isBreadth_1 : decode cX5_isBreadth 1 = .ok (.i2l, 1) := by decide +kernel
theorem dX5_isBreadth_2 : decode cX5_isBreadth 2 = .ok (.lconst 1, 1) := by decide +kernel
theorem dX5_isBreadth_3 : decode cX5_isBreadth 3 = .ok (.ldc2_w 71, 3) := by decide +kernel
theorem dX5_isBreadth_6 : decode cX5_isBreadth 6 = .ok (.invokestatic 67, 3) := by decide +kernel
theorem dX5_isBreadth_9 : decode cX5_isBreadth 9 = .ok (.ireturn, 1) := by decide +kernel
theorem dX5_height_0 : decode cX5_height 0 = .ok (.iload_n 1, 1) := by decide +kernel
theorem dX5_height_1 : decode cX5_height 1 = .ok (.i2l, 1) := by decide +kernel
theorem dX5_height_2 : decode cX5_height 2 = .ok (.lconst 0, 1) := by decide +kernel
theorem dX5_height_3 : decode cX5_height 3 = .ok (.aload_n 0, 1) := by decide +kernel
theorem dX5_height_4 : decode cX5_height 4 = .ok (.getfield 61, 3) := by decide +kernel
theorem dX5_height_7 : decode cX5_height 7 = .ok (.iconst 1, 1) := by decide +kernel
theorem dX5_height_8 : decode cX5_height 8 = .ok (.isub, 1) := by decide +kernel
theorem dX5_height_9 : decode cX5_height 9 = .ok (.i2l, 1) := by decide +kernel
theorem dX5_height_10 : decode cX5_height 10 = .ok (.invokestatic 67, 3) := by decide +kernel
theorem dX5_height_13 : decode cX5_height 13 = .ok (.ifCond .eq 26, 3) := by decide +kernel
theorem dX5_height_16 : decode cX5_height 16 = .ok (.iload_n 2, 1) := by decide +kernel
theorem dX5_height_17 : decode cX5_height 17 = .ok (.invokestatic 198, 3) := by decide +kernel
theorem dX5_height_20 : decode cX5_height 20 = .ok (.ifCond .eq 19, 3) := by decide +kernel
theorem dX5_height_23 : decode cX5_height 23 = .ok (.iload_n 3, 1) := by decide +kernel
theorem dX5_height_24 : decode cX5_height 24 = .ok (.invokestatic 174, 3) := by decide +kernel
theorem dX5_height_27 : decode cX5_height 27 = .ok (.ifCond .eq 12, 3) := by decide +kernel
theorem dX5_height_30 : decode cX5_height 30 = .ok (.aload_n 0, 1) := by decide +kernel
theorem dX5_height_31 : decode cX5_height 31 = .ok (.iload_n 1, 1) := by decide +kernel
theorem dX5_height_32 : decode cX5_height 32 = .ok (.iload_n 2, 1) := by decide +kernel
theorem dX5_height_33 : decode cX5_height 33 = .ok (.invokevirtual 201, 3) := by decide +kernel
theorem dX5_height_36 : decode cX5_height 36 = .ok (.ifCond .ne 7, 3) := by decide +kernel
theorem dX5_height_39 : decode cX5_height 39 = .ok (.ldc2_w 177, 3) := by decide +kernel
theorem dX5_height_42 : decode cX5_height 42 = .ok (.lreturn, 1) := by decide +kernel
theorem dX5_height_43 : decode cX5_height 43 = .ok (.aload_n 0, 1) := by decide +kernel
theorem dX5_height_44 : decode cX5_height 44 = .ok (.getfield 195, 3) := by decide +kernel
theorem dX5_height_47 : decode cX5_height 47 = .ok (.aload_n 0, 1) := by decide +kernel
theorem dX5_height_48 : decode cX5_height 48 = .ok (.getfield 191, 3) := by decide +kernel
theorem dX5_height_51 : decode cX5_height 51 = .ok (.iload_n 3, 1) := by decide +kernel
theorem dX5_height_52 : decode cX5_height 52 = .ok (.invokestatic 185, 3) := by decide +kernel
theorem dX5_height_55 : decode cX5_height 55 = .ok (.lreturn, 1) := by decide +kernel
theorem dX5_isBreak_0 : decode cX5_isBreak 0 = .ok (.lconst 1, 1) := by decide +kernel
theorem dX5_isBreak_1 : decode cX5_isBreak 1 = .ok (.lstore_n 2, 1) := by decide +kernel
theorem dX5_isBreak_2 : decode cX5_isBreak 2 = .ok (.iconst 0, 1) := by decide +kernel
theorem dX5_isBreak_3 : decode cX5_isBreak 3 = .ok (.istore 4, 2) := by decide +kernel
theorem dX5_isBreak_5 : decode cX5_isBreak 5 = .ok (.iload 4, 2) := by decide +kernel
theorem dX5_isBreak_7 : decode cX5_isBreak 7 = .ok (.iconst 4, 1) := by decide +kernel
theorem dX5_isBreak_8 : decode cX5_isBreak 8 = .ok (.if_icmp .ge 37, 3) := by decide +kernel
theorem dX5_isBreak_11 : decode cX5_isBreak 11 = .ok (.aload_n 0, 1) := by decide +kernel
theorem dX5_isBreak_12 : decode cX5_isBreak 12 = .ok (.getfield 58, 3) := by decide +kernel
theorem dX5_isBreak_15 : decode cX5_isBreak 15 = .ok (.iload_n 1, 1) := by decide +kernel
theorem dX5_isBreak_16 : decode cX5_isBreak 16 = .ok (.iload 4, 2) := by decide +kernel
theorem dX5_isBreak_18 : decode cX5_isBreak 18 = .ok (.iadd, 1) := by decide +kernel
theorem dX5_isBreak_19 : decode cX5_isBreak 19 = .ok (.laload, 1) := by decide +kernel
theorem dX5_isBreak_20 : decode cX5_isBreak 20 = .ok (.lconst 0, 1) := by decide +kernel
theorem dX5_isBreak_21 : decode cX5_isBreak 21 = .ok (.lcmp, 1) := by decide +kernel
theorem dX5_isBreak_22 : decode cX5_isBreak 22 = .ok (.ifCond .ne 5, 3) := by decide +kernel
theorem dX5_isBreak_25 : decode cX5_isBreak 25 = .ok (.iconst 0, 1) := by decide +kernel
theorem dX5_isBreak_26 : decode cX5_isBreak 26 = .ok (.ireturn, 1) := by decide +kernel
theorem dX5_isBreak_27 : decode cX5_isBreak 27 = .ok (.lload_n 2, 1) := by decide +kernel
theorem dX5_isBreak_28 : decode cX5_isBreak 28 = .ok (.aload_n 0, 1) := by decide +kernel
theorem dX5_isBreak_29 : decode cX5_isBreak 29 = .ok (.getfield 58, 3) := by decide +kernel
theorem dX5_isBreak_32 : decode cX5_isBreak 32 = .ok (.iload_n 1, 1) := by decide +kernel
theorem dX5_isBreak_33 : decode cX5_isBreak 33 = .ok (.iload 4, 2) := by decide +kernel
theorem dX5_isBreak_35 : decode cX5_isBreak 35 = .ok (.iadd, 1) := by decide +kernel
theorem dX5_isBreak_36 : decode cX5_isBreak 36 = .ok (.laload, 1) := by decide +kernel
theorem dX5_isBreak_37 : decode cX5_isBreak 37 = .ok (.lmul, 1) := by decide +kernel
theorem dX5_isBreak_38 : decode cX5_isBreak 38 = .ok (.lstore_n 2, 1) := by decide +kernel
theorem dX5_isBreak_39 : decode cX5_isBreak 39 = .ok (.iinc 4 1, 3) := by decide +kernel
theorem dX5_isBreak_42 : decode cX5_isBreak 42 = .ok (.goto (-37), 3) := by decide +kernel
theorem dX5_isBreak_45 : decode cX5_isBreak 45 = .ok (.lconst 0, 1) := by decide +kernel
theorem dX5_isBreak_46 : decode cX5_isBreak 46 = .ok (.lstore 4, 2) := by decide +kernel
theorem dX5_isBreak_48 : decode cX5_isBreak 48 = .ok (.iconst 0, 1) := by decide +kernel
theorem dX5_isBreak_49 : decode cX5_isBreak 49 = .ok (.istore 6, 2) := by decide +kernel
theorem dX5_isBreak_51 : decode cX5_isBreak 51 = .ok (.iload 6, 2) := by decide +kernel
theorem dX5_isBreak_53 : decode cX5_isBreak 53 = .ok (.iconst 4, 1) := by decide +kernel
theorem dX5_isBreak_54 : decode cX5_isBreak 54 = .ok (.if_icmp .ge 76, 3) := by decide +kernel
theorem dX5_isBreak_57 : decode cX5_isBreak 57 = .ok (.iload 6, 2) := by decide +kernel
theorem dX5_isBreak_59 : decode cX5_isBreak 59 = .ok (.ifCond .ne 9, 3) := by decide +kernel
theorem dX5_isBreak_62 : decode cX5_isBreak 62 = .ok (.ldc2_w 155, 3) := by decide +kernel
theorem dX5_isBreak_65 : decode cX5_isBreak 65 = .ok (.goto 28, 3) := by decide +kernel
theorem dX5_isBreak_68 : decode cX5_isBreak 68 = .ok (.iload 6, 2) := by decide +kernel
theorem dX5_isBreak_70 : decode cX5_isBreak 70 = .ok (.iconst 1, 1) := by decide +kernel
theorem dX5_isBreak_71 : decode cX5_isBreak 71 = .ok (.if_icmp .ne 9, 3) := by decide +kernel
theorem dX5_isBreak_74 : decode cX5_isBreak 74 = .ok (.ldc2_w 89, 3) := by decide +kernel
theorem dX5_isBreak_77 : decode cX5_isBreak 77 = .ok (.goto 16, 3) := by decide +kernel
theorem dX5_isBreak_80 : decode cX5_isBreak 80 = .ok (.iload 6, 2) := by decide +kernel
theorem dX5_isBreak_82 : decode cX5_isBreak 82 = .ok (.iconst 2, 1) := by decide +kernel
theorem dX5_isBreak_83 : decode cX5_isBreak 83 = .ok (.if_icmp .ne 9, 3) := by decide +kernel
theorem dX5_isBreak_86 : decode cX5_isBreak 86 = .ok (.ldc2_w 204, 3) := by decide +kernel
theorem dX5_isBreak_89 : decode cX5_isBreak 89 = .ok (.goto 4, 3) := by decide +kernel
theorem dX5_isBreak_92 : decode cX5_isBreak 92 = .ok (.lconst 1, 1) := by decide +kernel
theorem dX5_isBreak_93 : decode cX5_isBreak 93 = .ok (.lstore 7, 2) := by decide +kernel
theorem dX5_isBreak_95 : decode cX5_isBreak 95 = .ok (.lload 4, 2) := by decide +kernel
theorem dX5_isBreak_97 : decode cX5_isBreak 97 = .ok (.lload 7, 2) := by decide +kernel
theorem dX5_isBreak_99 : decode cX5_isBreak 99 = .ok (.aload_n 0, 1) := by decide +kernel
theorem dX5_isBreak_100 : decode cX5_isBreak 100 = .ok (.getfield 55, 3) := by decide +kernel
theorem dX5_isBreak_103 : decode cX5_isBreak 103 = .ok (.iload_n 1, 1) := by decide +kernel
theorem dX5_isBreak_104 : decode cX5_isBreak 104 = .ok (.iload 6, 2) := by decide +kernel
theorem dX5_isBreak_106 : decode cX5_isBreak 106 = .ok (.iadd, 1) := by decide +kernel
theorem dX5_isBreak_107 : decode cX5_isBreak 107 = .ok (.laload, 1) := by decide +kernel
theorem dX5_isBreak_108 : decode cX5_isBreak 108 = .ok (.lmul, 1) := by decide +kernel
theorem dX5_isBreak_109 : decode cX5_isBreak 109 = .ok (.lload_n 2, 1) := by decide +kernel
theorem dX5_isBreak_110 : decode cX5_isBreak 110 = .ok (.aload_n 0, 1) := by decide +kernel
theorem dX5_isBreak_111 : decode cX5_isBreak 111 = .ok (.getfield 58, 3) := by decide +kernel
theorem dX5_isBreak_114 : decode cX5_isBreak 114 = .ok (.iload_n 1, 1) := by decide +kernel
theorem dX5_isBreak_115 : decode cX5_isBreak 115 = .ok (.iload 6, 2) := by decide +kernel
theorem dX5_isBreak_117 : decode cX5_isBreak 117 = .ok (.iadd, 1) := by decide +kernel
theorem dX5_isBreak_118 : decode cX5_isBreak 118 = .ok (.laload, 1) := by decide +kernel
theorem dX5_isBreak_119 : decode cX5_isBreak 119 = .ok (.ldiv, 1) := by decide +kernel
theorem dX5_isBreak_120 : decode cX5_isBreak 120 = .ok (.lmul, 1) := by decide +kernel
theorem dX5_isBreak_121 : decode cX5_isBreak 121 = .ok (.ladd, 1) := by decide +kernel
theorem dX5_isBreak_122 : decode cX5_isBreak 122 = .ok (.lstore 4, 2) := by decide +kernel
theorem dX5_isBreak_124 : decode cX5_isBreak 124 = .ok (.iinc 6 1, 3) := by decide +kernel
theorem dX5_isBreak_127 : decode cX5_isBreak 127 = .ok (.goto (-76), 3) := by decide +kernel
theorem dX5_isBreak_130 : decode cX5_isBreak 130 = .ok (.lload 4, 2) := by decide +kernel
theorem dX5_isBreak_132 : decode cX5_isBreak 132 = .ok (.lconst 0, 1) := by decide +kernel
theorem dX5_isBreak_133 : decode cX5_isBreak 133 = .ok (.lcmp, 1) := by decide +kernel
theorem dX5_isBreak_134 : decode cX5_isBreak 134 = .ok (.ifCond .ge 9, 3) := by decide +kernel
theorem dX5_isBreak_137 : decode cX5_isBreak 137 = .ok (.lload 4, 2) := by decide +kernel
theorem dX5_isBreak_139 : decode cX5_isBreak 139 = .ok (.lneg, 1) := by decide +kernel
theorem dX5_isBreak_140 : decode cX5_isBreak 140 = .ok (.goto 5, 3) := by decide +kernel
theorem dX5_isBreak_143 : decode cX5_isBreak 143 = .ok (.lload 4, 2) := by decide +kernel
theorem dX5_isBreak_145 : decode cX5_isBreak 145 = .ok (.lstore 4, 2) := by decide +kernel
theorem dX5_isBreak_147 : decode cX5_isBreak 147 = .ok (.ldc2_w 206, 3) := by decide +kernel
theorem dX5_isBreak_150 : decode cX5_isBreak 150 = .ok (.lload 4, 2) := by decide +kernel
theorem dX5_isBreak_152 : decode cX5_isBreak 152 = .ok (.lmul, 1) := by decide +kernel
theorem dX5_isBreak_153 : decode cX5_isBreak 153 = .ok (.aload_n 0, 1) := by decide +kernel
theorem dX5_isBreak_154 : decode cX5_isBreak 154 = .ok (.getfield 7, 3) := by decide +kernel
theorem dX5_isBreak_157 : decode cX5_isBreak 157 = .ok (.i2l, 1) := by decide +kernel
theorem dX5_isBreak_158 : decode cX5_isBreak 158 = .ok (.lload_n 2, 1) := by decide +kernel
theorem dX5_isBreak_159 : decode cX5_isBreak 159 = .ok (.lmul, 1) := by decide +kernel
theorem dX5_isBreak_160 : decode cX5_isBreak 160 = .ok (.lcmp, 1) := by decide +kernel
theorem dX5_isBreak_161 : decode cX5_isBreak 161 = .ok (.ifCond .le 7, 3) := by decide +kernel
theorem dX5_isBreak_164 : decode cX5_isBreak 164 = .ok (.iconst 1, 1) := by decide +kernel
theorem dX5_isBreak_165 : decode cX5_isBreak 165 = .ok (.goto 4, 3) := by decide +kernel
theorem dX5_isBreak_168 : decode cX5_isBreak 168 = .ok (.iconst 0, 1) := by decide +kernel
theorem dX5_isBreak_169 : decode cX5_isBreak 169 = .ok (.ireturn, 1) := by decide +kernel
theorem dX5_breaksAt_0 : decode cX5_breaksAt 0 = .ok (.iconst 0, 1) := by decide +kernel
theorem dX5_breaksAt_1 : decode cX5_breaksAt 1 = .ok (.istore_n 2, 1) := by decide +kernel
theorem dX5_breaksAt_2 : decode cX5_breaksAt 2 = .ok (.iload_n 2, 1) := by decide +kernel
theorem dX5_breaksAt_3 : decode cX5_breaksAt 3 = .ok (.aload_n 0, 1) := by decide +kernel
theorem dX5_breaksAt_4 : decode cX5_breaksAt 4 = .ok (.getfield 61, 3) := by decide +kernel
theorem dX5_breaksAt_7 : decode cX5_breaksAt 7 = .ok (.if_icmp .ge 52, 3) := by decide +kernel
theorem dX5_breaksAt_10 : decode cX5_breaksAt 10 = .ok (.aload_n 0, 1) := by decide +kernel
theorem dX5_breaksAt_11 : decode cX5_breaksAt 11 = .ok (.iload_n 2, 1) := by decide +kernel
theorem dX5_breaksAt_12 : decode cX5_breaksAt 12 = .ok (.iload_n 1, 1) := by decide +kernel
theorem dX5_breaksAt_13 : decode cX5_breaksAt 13 = .ok (.invokevirtual 201, 3) := by decide +kernel
theorem dX5_breaksAt_16 : decode cX5_breaksAt 16 = .ok (.istore_n 3, 1) := by decide +kernel
theorem dX5_breaksAt_17 : decode cX5_breaksAt 17 = .ok (.aload_n 0, 1) := by decide +kernel
theorem dX5_breaksAt_18 : decode cX5_breaksAt 18 = .ok (.getfield 55, 3) := by decide +kernel
theorem dX5_breaksAt_21 : decode cX5_breaksAt 21 = .ok (.iload_n 2, 1) := by decide +kernel
theorem dX5_breaksAt_22 : decode cX5_breaksAt 22 = .ok (.iload_n 3, 1) := by decide +kernel
theorem dX5_breaksAt_23 : decode cX5_breaksAt 23 = .ok (.ifCond .eq 10, 3) := by decide +kernel
theorem dX5_breaksAt_26 : decode cX5_breaksAt 26 = .ok (.aload_n 0, 1) := by decide +kernel
theorem dX5_breaksAt_27 : decode cX5_breaksAt 27 = .ok (.getfield 195, 3) := by decide +kernel
theorem dX5_breaksAt_30 : decode cX5_breaksAt 30 = .ok (.goto 4, 3) := by decide +kernel
theorem dX5_breaksAt_33 : decode cX5_breaksAt 33 = .ok (.lconst 0, 1) := by decide +kernel
theorem dX5_breaksAt_34 : decode cX5_breaksAt 34 = .ok (.lastore, 1) := by decide +kernel
theorem dX5_breaksAt_35 : decode cX5_breaksAt 35 = .ok (.aload_n 0, 1) := by decide +kernel
theorem dX5_breaksAt_36 : decode cX5_breaksAt 36 = .ok (.getfield 58, 3) := by decide +kernel
theorem dX5_breaksAt_39 : decode cX5_breaksAt 39 = .ok (.iload_n 2, 1) := by decide +kernel
theorem dX5_breaksAt_40 : decode cX5_breaksAt 40 = .ok (.iload_n 3, 1) := by decide +kernel
theorem dX5_breaksAt_41 : decode cX5_breaksAt 41 = .ok (.ifCond .eq 10, 3) := by decide +kernel
theorem dX5_breaksAt_44 : decode cX5_breaksAt 44 = .ok (.aload_n 0, 1) := by decide +kernel
theorem dX5_breaksAt_45 : decode cX5_breaksAt 45 = .ok (.getfield 191, 3) := by decide +kernel
theorem dX5_breaksAt_48 : decode cX5_breaksAt 48 = .ok (.goto 4, 3) := by decide +kernel
theorem dX5_breaksAt_51 : decode cX5_breaksAt 51 = .ok (.lconst 0, 1) := by decide +kernel
theorem dX5_breaksAt_52 : decode cX5_breaksAt 52 = .ok (.lastore, 1) := by decide +kernel
theorem dX5_breaksAt_53 : decode cX5_breaksAt 53 = .ok (.iinc 2 1, 3) := by decide +kernel
theorem dX5_breaksAt_56 : decode cX5_breaksAt 56 = .ok (.goto (-54), 3) := by decide +kernel
theorem dX5_breaksAt_59 : decode cX5_breaksAt 59 = .ok (.iconst 0, 1) := by decide +kernel
theorem dX5_breaksAt_60 : decode cX5_breaksAt 60 = .ok (.istore_n 2, 1) := by decide +kernel
theorem dX5_breaksAt_61 : decode cX5_breaksAt 61 = .ok (.iconst 0, 1) := by decide +kernel
theorem dX5_breaksAt_62 : decode cX5_breaksAt 62 = .ok (.istore_n 3, 1) := by decide +kernel
theorem dX5_breaksAt_63 : decode cX5_breaksAt 63 = .ok (.iload_n 3, 1) := by decide +kernel
theorem dX5_breaksAt_64 : decode cX5_breaksAt 64 = .ok (.iconst 3, 1) := by decide +kernel
theorem dX5_breaksAt_65 : decode cX5_breaksAt 65 = .ok (.iadd, 1) := by decide +kernel
theorem dX5_breaksAt_66 : decode cX5_breaksAt 66 = .ok (.aload_n 0, 1) := by decide +kernel
theorem dX5_breaksAt_67 : decode cX5_breaksAt 67 = .ok (.getfield 61, 3) := by decide +kernel
theorem dX5_breaksAt_70 : decode cX5_breaksAt 70 = .ok (.if_icmp .ge 25, 3) := by decide +kernel
theorem dX5_breaksAt_73 : decode cX5_breaksAt 73 = .ok (.iload_n 2, 1) := by decide +kernel
theorem dX5_breaksAt_74 : decode cX5_breaksAt 74 = .ok (.aload_n 0, 1) := by decide +kernel
theorem dX5_breaksAt_75 : decode cX5_breaksAt 75 = .ok (.iload_n 3, 1) := by decide +kernel
theorem dX5_breaksAt_76 : decode cX5_breaksAt 76 = .ok (.invokevirtual 208, 3) := by decide +kernel
theorem dX5_breaksAt_79 : decode cX5_breaksAt 79 = .ok (.ifCond .eq 7, 3) := by decide +kernel
theorem dX5_breaksAt_82 : decode cX5_breaksAt 82 = .ok (.iconst 1, 1) := by decide +kernel
theorem dX5_breaksAt_83 : decode cX5_breaksAt 83 = .ok (.goto 4, 3) := by decide +kernel
theorem dX5_breaksAt_86 : decode cX5_breaksAt 86 = .ok (.iconst 0, 1) := by decide +kernel
theorem dX5_breaksAt_87 : decode cX5_breaksAt 87 = .ok (.iadd, 1) := by decide +kernel
theorem dX5_breaksAt_88 : decode cX5_breaksAt 88 = .ok (.istore_n 2, 1) := by decide +kernel
theorem dX5_breaksAt_89 : decode cX5_breaksAt 89 = .ok (.iinc 3 1, 3) := by decide +kernel
theorem dX5_breaksAt_92 : decode cX5_breaksAt 92 = .ok (.goto (-29), 3) := by decide +kernel
theorem dX5_breaksAt_95 : decode cX5_breaksAt 95 = .ok (.iload_n 2, 1) := by decide +kernel
theorem dX5_breaksAt_96 : decode cX5_breaksAt 96 = .ok (.ireturn, 1) := by decide +kernel
theorem dX5_breaks_0 : decode cX5_breaks 0 = .ok (.iload_n 1, 1) := by decide +kernel
theorem dX5_breaks_1 : decode cX5_breaks 1 = .ok (.invokestatic 198, 3) := by decide +kernel
theorem dX5_breaks_4 : decode cX5_breaks 4 = .ok (.ifCond .eq 11, 3) := by decide +kernel
theorem dX5_breaks_7 : decode cX5_breaks 7 = .ok (.aload_n 0, 1) := by decide +kernel
theorem dX5_breaks_8 : decode cX5_breaks 8 = .ok (.iload_n 1, 1) := by decide +kernel
theorem dX5_breaks_9 : decode cX5_breaks 9 = .ok (.invokevirtual 211, 3) := by decide +kernel
theorem dX5_breaks_12 : decode cX5_breaks 12 = .ok (.goto 5, 3) := by decide +kernel
theorem dX5_breaks_15 : decode cX5_breaks 15 = .ok (.bipush (-2), 2) := by decide +kernel
theorem dX5_breaks_17 : decode cX5_breaks 17 = .ok (.ireturn, 1) := by decide +kernel
theorem dX5_worst_0 : decode cX5_worst 0 = .ok (.iconst 0, 1) := by decide +kernel
theorem dX5_worst_1 : decode cX5_worst 1 = .ok (.istore_n 1, 1) := by decide +kernel
theorem dX5_worst_2 : decode cX5_worst 2 = .ok (.iconst (-1), 1) := by decide +kernel
theorem dX5_worst_3 : decode cX5_worst 3 = .ok (.istore_n 2, 1) := by decide +kernel
theorem dX5_worst_4 : decode cX5_worst 4 = .ok (.iconst 1, 1) := by decide +kernel
theorem dX5_worst_5 : decode cX5_worst 5 = .ok (.istore_n 3, 1) := by decide +kernel
theorem dX5_worst_6 : decode cX5_worst 6 = .ok (.iload_n 3, 1) := by decide +kernel
theorem dX5_worst_7 : decode cX5_worst 7 = .ok (.sipush 999, 3) := by decide +kernel
theorem dX5_worst_10 : decode cX5_worst 10 = .ok (.if_icmp .gt 41, 3) := by decide +kernel
theorem dX5_worst_13 : decode cX5_worst 13 = .ok (.aload_n 0, 1) := by decide +kernel
theorem dX5_worst_14 : decode cX5_worst 14 = .ok (.iload_n 3, 1) := by decide +kernel
theorem dX5_worst_15 : decode cX5_worst 15 = .ok (.invokevirtual 211, 3) := by decide +kernel
theorem dX5_worst_18 : decode cX5_worst 18 = .ok (.istore 4, 2) := by decide +kernel
theorem dX5_worst_20 : decode cX5_worst 20 = .ok (.iload 4, 2) := by decide +kernel
theorem dX5_worst_22 : decode cX5_worst 22 = .ok (.iload_n 2, 1) := by decide +kernel
theorem dX5_worst_23 : decode cX5_worst 23 = .ok (.if_icmp .le 7, 3) := by decide +kernel
theorem dX5_worst_26 : decode cX5_worst 26 = .ok (.iload_n 3, 1) := by decide +kernel
theorem dX5_worst_27 : decode cX5_worst 27 = .ok (.goto 4, 3) := by decide +kernel
theorem dX5_worst_30 : decode cX5_worst 30 = .ok (.iload_n 1, 1) := by decide +kernel
theorem dX5_worst_31 : decode cX5_worst 31 = .ok (.istore_n 1, 1) := by decide +kernel
theorem dX5_worst_32 : decode cX5_worst 32 = .ok (.iload 4, 2) := by decide +kernel
theorem dX5_worst_34 : decode cX5_worst 34 = .ok (.iload_n 2, 1) := by decide +kernel
theorem dX5_worst_35 : decode cX5_worst 35 = .ok (.if_icmp .le 8, 3) := by decide +kernel
theorem dX5_worst_38 : decode cX5_worst 38 = .ok (.iload 4, 2) := by decide +kernel
theorem dX5_worst_40 : decode cX5_worst 40 = .ok (.goto 4, 3) := by decide +kernel
theorem dX5_worst_43 : decode cX5_worst 43 = .ok (.iload_n 2, 1) := by decide +kernel
theorem dX5_worst_44 : decode cX5_worst 44 = .ok (.istore_n 2, 1) := by decide +kernel
theorem dX5_worst_45 : decode cX5_worst 45 = .ok (.iinc 3 1, 3) := by decide +kernel
theorem dX5_worst_48 : decode cX5_worst 48 = .ok (.goto (-42), 3) := by decide +kernel
theorem dX5_worst_51 : decode cX5_worst 51 = .ok (.iload_n 1, 1) := by decide +kernel
theorem dX5_worst_52 : decode cX5_worst 52 = .ok (.ireturn, 1) := by decide +kernel
theorem dX5_manyRough_0 : decode cX5_manyRough 0 = .ok (.iconst 0, 1) := by decide +kernel
theorem dX5_manyRough_1 : decode cX5_manyRough 1 = .ok (.istore_n 1, 1) := by decide +kernel
theorem dX5_manyRough_2 : decode cX5_manyRough 2 = .ok (.iconst 0, 1) := by decide +kernel
theorem dX5_manyRough_3 : decode cX5_manyRough 3 = .ok (.istore_n 2, 1) := by decide +kernel
theorem dX5_manyRough_4 : decode cX5_manyRough 4 = .ok (.iload_n 2, 1) := by decide +kernel
theorem dX5_manyRough_5 : decode cX5_manyRough 5 = .ok (.iconst 2, 1) := by decide +kernel
theorem dX5_manyRough_6 : decode cX5_manyRough 6 = .ok (.if_icmp .ge 47, 3) := by decide +kernel
theorem dX5_manyRough_9 : decode cX5_manyRough 9 = .ok (.iconst 0, 1) := by decide +kernel
theorem dX5_manyRough_10 : decode cX5_manyRough 10 = .ok (.istore_n 3, 1) := by decide +kernel
theorem dX5_manyRough_11 : decode cX5_manyRough 11 = .ok (.iload_n 3, 1) := by decide +kernel
theorem dX5_manyRough_12 : decode cX5_manyRough 12 = .ok (.aload_n 0, 1) := by decide +kernel
theorem dX5_manyRough_13 : decode cX5_manyRough 13 = .ok (.iload_n 2, 1) := by decide +kernel
theorem dX5_manyRough_14 : decode cX5_manyRough 14 = .ok (.invokevirtual 93, 3) := by decide +kernel
theorem dX5_manyRough_17 : decode cX5_manyRough 17 = .ok (.if_icmp .ge 30, 3) := by decide +kernel
theorem dX5_manyRough_20 : decode cX5_manyRough 20 = .ok (.aload_n 0, 1) := by decide +kernel
theorem dX5_manyRough_21 : decode cX5_manyRough 21 = .ok (.iload_n 2, 1) := by decide +kernel
theorem dX5_manyRough_22 : decode cX5_manyRough 22 = .ok (.iload_n 3, 1) := by decide +kernel
theorem dX5_manyRough_23 : decode cX5_manyRough 23 = .ok (.invokevirtual 109, 3) := by decide +kernel
theorem dX5_manyRough_26 : decode cX5_manyRough 26 = .ok (.iload_n 1, 1) := by decide +kernel
theorem dX5_manyRough_27 : decode cX5_manyRough 27 = .ok (.aload_n 0, 1) := by decide +kernel
theorem dX5_manyRough_28 : decode cX5_manyRough 28 = .ok (.invokevirtual 123, 3) := by decide +kernel
theorem dX5_manyRough_31 : decode cX5_manyRough 31 = .ok (.ifCond .le 7, 3) := by decide +kernel
theorem dX5_manyRough_34 : decode cX5_manyRough 34 = .ok (.iconst 1, 1) := by decide +kernel
theorem dX5_manyRough_35 : decode cX5_manyRough 35 = .ok (.goto 4, 3) := by decide +kernel
theorem dX5_manyRough_38 : decode cX5_manyRough 38 = .ok (.iconst 0, 1) := by decide +kernel
theorem dX5_manyRough_39 : decode cX5_manyRough 39 = .ok (.iadd, 1) := by decide +kernel
theorem dX5_manyRough_40 : decode cX5_manyRough 40 = .ok (.istore_n 1, 1) := by decide +kernel
theorem dX5_manyRough_41 : decode cX5_manyRough 41 = .ok (.iinc 3 1, 3) := by decide +kernel
theorem dX5_manyRough_44 : decode cX5_manyRough 44 = .ok (.goto (-33), 3) := by decide +kernel
theorem dX5_manyRough_47 : decode cX5_manyRough 47 = .ok (.iinc 2 1, 3) := by decide +kernel
theorem dX5_manyRough_50 : decode cX5_manyRough 50 = .ok (.goto (-46), 3) := by decide +kernel
theorem dX5_manyRough_53 : decode cX5_manyRough 53 = .ok (.iload_n 1, 1) := by decide +kernel
theorem dX5_manyRough_54 : decode cX5_manyRough 54 = .ok (.ireturn, 1) := by decide +kernel
theorem dX5_manyHeld_0 : decode cX5_manyHeld 0 = .ok (.iconst 0, 1) := by decide +kernel
theorem dX5_manyHeld_1 : decode cX5_manyHeld 1 = .ok (.istore_n 1, 1) := by decide +kernel
theorem dX5_manyHeld_2 : decode cX5_manyHeld 2 = .ok (.iconst 0, 1) := by decide +kernel
theorem dX5_manyHeld_3 : decode cX5_manyHeld 3 = .ok (.istore_n 2, 1) := by decide +kernel
theorem dX5_manyHeld_4 : decode cX5_manyHeld 4 = .ok (.iload_n 2, 1) := by decide +kernel
theorem dX5_manyHeld_5 : decode cX5_manyHeld 5 = .ok (.bipush 63, 2) := by decide +kernel
theorem dX5_manyHeld_7 : decode cX5_manyHeld 7 = .ok (.if_icmp .ge 26, 3) := by decide +kernel
theorem dX5_manyHeld_10 : decode cX5_manyHeld 10 = .ok (.iload_n 1, 1) := by decide +kernel
theorem dX5_manyHeld_11 : decode cX5_manyHeld 11 = .ok (.aload_n 0, 1) := by decide +kernel
theorem dX5_manyHeld_12 : decode cX5_manyHeld 12 = .ok (.getfield 29, 3) := by decide +kernel
theorem dX5_manyHeld_15 : decode cX5_manyHeld 15 = .ok (.iload_n 2, 1) := by decide +kernel
theorem dX5_manyHeld_16 : decode cX5_manyHeld 16 = .ok (.baload, 1) := by decide +kernel
theorem dX5_manyHeld_17 : decode cX5_manyHeld 17 = .ok (.ifCond .eq 7, 3) := by decide +kernel
theorem dX5_manyHeld_20 : decode cX5_manyHeld 20 = .ok (.iconst 1, 1) := by decide +kernel
theorem dX5_manyHeld_21 : decode cX5_manyHeld 21 = .ok (.goto 4, 3) := by decide +kernel
theorem dX5_manyHeld_24 : decode cX5_manyHeld 24 = .ok (.iconst 0, 1) := by decide +kernel
theorem dX5_manyHeld_25 : decode cX5_manyHeld 25 = .ok (.iadd, 1) := by decide +kernel
theorem dX5_manyHeld_26 : decode cX5_manyHeld 26 = .ok (.istore_n 1, 1) := by decide +kernel
theorem dX5_manyHeld_27 : decode cX5_manyHeld 27 = .ok (.iinc 2 1, 3) := by decide +kernel
theorem dX5_manyHeld_30 : decode cX5_manyHeld 30 = .ok (.goto (-26), 3) := by decide +kernel
theorem dX5_manyHeld_33 : decode cX5_manyHeld 33 = .ok (.iload_n 1, 1) := by decide +kernel
theorem dX5_manyHeld_34 : decode cX5_manyHeld 34 = .ok (.ireturn, 1) := by decide +kernel
theorem dX5_farOff_0 : decode cX5_farOff 0 = .ok (.iconst 0, 1) := by decide +kernel
theorem dX5_farOff_1 : decode cX5_farOff 1 = .ok (.istore_n 1, 1) := by decide +kernel
theorem dX5_farOff_2 : decode cX5_farOff 2 = .ok (.iconst 0, 1) := by decide +kernel
theorem dX5_farOff_3 : decode cX5_farOff 3 = .ok (.istore_n 2, 1) := by decide +kernel
theorem dX5_farOff_4 : decode cX5_farOff 4 = .ok (.iload_n 2, 1) := by decide +kernel
theorem dX5_farOff_5 : decode cX5_farOff 5 = .ok (.bipush 63, 2) := by decide +kernel
theorem dX5_farOff_7 : decode cX5_farOff 7 = .ok (.if_icmp .ge 28, 3) := by decide +kernel
theorem dX5_farOff_10 : decode cX5_farOff 10 = .ok (.iload_n 1, 1) := by decide +kernel
theorem dX5_farOff_11 : decode cX5_farOff 11 = .ok (.aload_n 0, 1) := by decide +kernel
theorem dX5_farOff_12 : decode cX5_farOff 12 = .ok (.getfield 22, 3) := by decide +kernel
theorem dX5_farOff_15 : decode cX5_farOff 15 = .ok (.iload_n 2, 1) := by decide +kernel
theorem dX5_farOff_16 : decode cX5_farOff 16 = .ok (.iaload, 1) := by decide +kernel
theorem dX5_farOff_17 : decode cX5_farOff 17 = .ok (.aload_n 0, 1) := by decide +kernel
theorem dX5_farOff_18 : decode cX5_farOff 18 = .ok (.getfield 26, 3) := by decide +kernel
theorem dX5_farOff_21 : decode cX5_farOff 21 = .ok (.iload_n 2, 1) := by decide +kernel
theorem dX5_farOff_22 : decode cX5_farOff 22 = .ok (.iaload, 1) := by decide +kernel
theorem dX5_farOff_23 : decode cX5_farOff 23 = .ok (.isub, 1) := by decide +kernel
theorem dX5_farOff_24 : decode cX5_farOff 24 = .ok (.invokestatic 120, 3) := by decide +kernel
theorem dX5_farOff_27 : decode cX5_farOff 27 = .ok (.iadd, 1) := by decide +kernel
theorem dX5_farOff_28 : decode cX5_farOff 28 = .ok (.istore_n 1, 1) := by decide +kernel
theorem dX5_farOff_29 : decode cX5_farOff 29 = .ok (.iinc 2 1, 3) := by decide +kernel
theorem dX5_farOff_32 : decode cX5_farOff 32 = .ok (.goto (-28), 3) := by decide +kernel
theorem dX5_farOff_35 : decode cX5_farOff 35 = .ok (.iload_n 1, 1) := by decide +kernel
theorem dX5_farOff_36 : decode cX5_farOff 36 = .ok (.ireturn, 1) := by decide +kernel
theorem dX5_many_0 : decode cX5_many 0 = .ok (.iload_n 1, 1) := by decide +kernel
theorem dX5_many_1 : decode cX5_many 1 = .ok (.tableswitch 60 0 4 #[35, 40, 45, 50, 55], 35) := by decide +kernel
theorem dX5_many_36 : decode cX5_many 36 = .ok (.aload_n 0, 1) := by decide +kernel
theorem dX5_many_37 : decode cX5_many 37 = .ok (.getfield 61, 3) := by decide +kernel
theorem dX5_many_40 : decode cX5_many 40 = .ok (.ireturn, 1) := by decide +kernel
theorem dX5_many_41 : decode cX5_many 41 = .ok (.aload_n 0, 1) := by decide +kernel
theorem dX5_many_42 : decode cX5_many 42 = .ok (.getfield 64, 3) := by decide +kernel
theorem dX5_many_45 : decode cX5_many 45 = .ok (.ireturn, 1) := by decide +kernel
theorem dX5_many_46 : decode cX5_many 46 = .ok (.aload_n 0, 1) := by decide +kernel
theorem dX5_many_47 : decode cX5_many 47 = .ok (.invokevirtual 214, 3) := by decide +kernel
theorem dX5_many_50 : decode cX5_many 50 = .ok (.ireturn, 1) := by decide +kernel
theorem dX5_many_51 : decode cX5_many 51 = .ok (.aload_n 0, 1) := by decide +kernel
theorem dX5_many_52 : decode cX5_many 52 = .ok (.invokevirtual 217, 3) := by decide +kernel
theorem dX5_many_55 : decode cX5_many 55 = .ok (.ireturn, 1) := by decide +kernel
theorem dX5_many_56 : decode cX5_many 56 = .ok (.aload_n 0, 1) := by decide +kernel
theorem dX5_many_57 : decode cX5_many 57 = .ok (.invokevirtual 220, 3) := by decide +kernel
theorem dX5_many_60 : decode cX5_many 60 = .ok (.ireturn, 1) := by decide +kernel
theorem dX5_many_61 : decode cX5_many 61 = .ok (.bipush (-2), 2) := by decide +kernel
theorem dX5_many_63 : decode cX5_many 63 = .ok (.ireturn, 1) := by decide +kernel
end
section
theorem dL_law_0 : decode cL_law 0 = .ok (.new 7, 3) := by decide +kernel
theorem dL_law_3 : decode cL_law 3 = .ok (.dup, 1) := by decide +kernel
theorem dL_law_4 : decode cL_law 4 = .ok (.invokespecial 9, 3) := by decide +kernel
theorem dL_law_7 : decode cL_law 7 = .ok (.astore_n 1, 1) := by decide +kernel
theorem dL_law_8 : decode cL_law 8 = .ok (.new 10, 3) := by decide +kernel
theorem dL_law_11 : decode cL_law 11 = .ok (.dup, 1) := by decide +kernel
theorem dL_law_12 : decode cL_law 12 = .ok (.invokespecial 12, 3) := by decide +kernel
theorem dL_law_15 : decode cL_law 15 = .ok (.astore_n 2, 1) := by decide +kernel
theorem dL_law_16 : decode cL_law 16 = .ok (.iconst 0, 1) := by decide +kernel
theorem dL_law_17 : decode cL_law 17 = .ok (.istore_n 3, 1) := by decide +kernel
theorem dL_law_18 : decode cL_law 18 = .ok (.iload_n 3, 1) := by decide +kernel
theorem dL_law_19 : decode cL_law 19 = .ok (.aload_n 0, 1) := by decide +kernel
theorem dL_law_20 : decode cL_law 20 = .ok (.arraylength, 1) := by decide +kernel
theorem dL_law_21 : decode cL_law 21 = .ok (.iconst 4, 1) := by decide +kernel
theorem dL_law_22 : decode cL_law 22 = .ok (.isub, 1) := by decide +kernel
theorem dL_law_23 : decode cL_law 23 = .ok (.if_icmp .gt 801, 3) := by decide +kernel
theorem dL_law_26 : decode cL_law 26 = .ok (.aload_n 0, 1) := by decide +kernel
theorem dL_law_27 : decode cL_law 27 = .ok (.iload_n 3, 1) := by decide +kernel
theorem dL_law_28 : decode cL_law 28 = .ok (.iaload, 1) := by decide +kernel
theorem dL_law_29 : decode cL_law 29 = .ok (.bipush 31, 2) := by decide +kernel
theorem dL_law_31 : decode cL_law 31 = .ok (.iand, 1) := by decide +kernel
theorem dL_law_32 : decode cL_law 32 = .ok (.tableswitch 786 0 19 #[96, 129, 172, 231, 264, 307, 350, 393, 416, 449, 492, 525, 548, 561, 605, 649, 683, 727, 750, 763], 96) := by decide +kernel
theorem dL_law_128 : decode cL_law 128 = .ok (.aload_n 1, 1) := by decide +kernel
theorem dL_law_129 : decode cL_law 129 = .ok (.aload_n 0, 1) := by decide +kernel
theorem dL_law_130 : decode cL_law 130 = .ok (.iload_n 3, 1) := by decide +kernel
theorem dL_law_131 : decode cL_law 131 = .ok (.iconst 1, 1) := by decide +kernel
theorem dL_law_132 : decode cL_law 132 = .ok (.iadd, 1) := by decide +kernel
theorem dL_law_133 : decode cL_law 133 = .ok (.iaload, 1) := by decide +kernel
theorem dL_law_134 : decode cL_law 134 = .ok (.aload_n 0, 1) := by decide +kernel
theorem dL_law_135 : decode cL_law 135 = .ok (.iload_n 3, 1) := by decide +kernel
theorem dL_law_136 : decode cL_law 136 = .ok (.iconst 2, 1) := by decide +kernel
theorem dL_law_137 : decode cL_law 137 = .ok (.iadd, 1) := by decide +kernel
theorem dL_law_138 : decode cL_law 138 = .ok (.iaload, 1) := by decide +kernel
theorem dL_law_139 : decode cL_law 139 = .ok (.invokevirtual 13, 3) := by decide +kernel
theorem dL_law_142 : decode cL_law 142 = .ok (.aload_n 2, 1) := by decide +kernel
theorem dL_law_143 : decode cL_law 143 = .ok (.aload_n 0, 1) := by decide +kernel
theorem dL_law_144 : decode cL_law 144 = .ok (.iload_n 3, 1) := by decide +kernel
theorem dL_law_145 : decode cL_law 145 = .ok (.iconst 1, 1) := by decide +kernel
theorem dL_law_146 : decode cL_law 146 = .ok (.iadd, 1) := by decide +kernel
theorem dL_law_147 : decode cL_law 147 = .ok (.iaload, 1) := by decide +kernel
theorem dL_law_148 : decode cL_law 148 = .ok (.aload_n 0, 1) := by decide +kernel
theorem dL_law_149 : decode cL_law 149 = .ok (.iload_n 3, 1) := by decide +kernel
theorem dL_law_150 : decode cL_law 150 = .ok (.iconst 2, 1) := by decide +kernel
theorem dL_law_151 : decode cL_law 151 = .ok (.iadd, 1) := by decide +kernel
theorem dL_law_152 : decode cL_law 152 = .ok (.iaload, 1) := by decide +kernel
theorem dL_law_153 : decode cL_law 153 = .ok (.invokevirtual 17, 3) := by decide +kernel
theorem dL_law_156 : decode cL_law 156 = .ok (.if_icmp .eq 662, 3) := by decide +kernel
theorem dL_law_159 : decode cL_law 159 = .ok (.iconst 0, 1) := by decide +kernel
theorem dL_law_160 : decode cL_law 160 = .ok (.ireturn, 1) := by decide +kernel
theorem dL_law_161 : decode cL_law 161 = .ok (.aload_n 1, 1) := by decide +kernel
theorem dL_law_162 : decode cL_law 162 = .ok (.aload_n 0, 1) := by decide +kernel
theorem dL_law_163 : decode cL_law 163 = .ok (.iload_n 3, 1) := by decide +kernel
theorem dL_law_164 : decode cL_law 164 = .ok (.iconst 1, 1) := by decide +kernel
theorem dL_law_165 : decode cL_law 165 = .ok (.iadd, 1) := by decide +kernel
theorem dL_law_166 : decode cL_law 166 = .ok (.iaload, 1) := by decide +kernel
theorem dL_law_167 : decode cL_law 167 = .ok (.aload_n 0, 1) := by decide +kernel
theorem dL_law_168 : decode cL_law 168 = .ok (.iload_n 3, 1) := by decide +kernel
theorem dL_law_169 : decode cL_law 169 = .ok (.iconst 2, 1) := by decide +kernel
theorem dL_law_170 : decode cL_law 170 = .ok (.iadd, 1) := by decide +kernel
theorem dL_law_171 : decode cL_law 171 = .ok (.iaload, 1) := by decide +kernel
theorem dL_law_172 : decode cL_law 172 = .ok (.aload_n 0, 1) := by decide +kernel
theorem dL_law_173 : decode cL_law 173 = .ok (.iload_n 3, 1) := by decide +kernel
theorem dL_law_174 : decode cL_law 174 = .ok (.iconst 3, 1) := by decide +kernel
theorem dL_law_175 : decode cL_law 175 = .ok (.iadd, 1) := by decide +kernel
theorem dL_law_176 : decode cL_law 176 = .ok (.iaload, 1) := by decide +kernel
theorem dL_law_177 : decode cL_law 177 = .ok (.invokevirtual 18, 3) := by decide +kernel
theorem dL_law_180 : decode cL_law 180 = .ok (.aload_n 2, 1) := by decide +kernel
theorem dL_law_181 : decode cL_law 181 = .ok (.aload_n 0, 1) := by decide +kernel
theorem dL_law_182 : decode cL_law 182 = .ok (.iload_n 3, 1) := by decide +kernel
theorem dL_law_183 : decode cL_law 183 = .ok (.iconst 1, 1) := by decide +kernel
theorem dL_law_184 : decode cL_law 184 = .ok (.iadd, 1) := by decide +kernel
theorem dL_law_185 : decode cL_law 185 = .ok (.iaload, 1) := by decide +kernel
theorem dL_law_186 : decode cL_law 186 = .ok (.aload_n 0, 1) := by decide +kernel
theorem dL_law_187 : decode cL_law 187 = .ok (.iload_n 3, 1) := by decide +kernel
theorem dL_law_188 : decode cL_law 188 = .ok (.iconst 2, 1) := by decide +kernel
theorem dL_law_189 : decode cL_law 189 = .ok (.iadd, 1) := by decide +kernel
theorem dL_law_190 : decode cL_law 190 = .ok (.iaload, 1) := by decide +kernel
theorem dL_law_191 : decode cL_law 191 = .ok (.aload_n 0, 1) := by decide +kernel
theorem dL_law_192 : decode cL_law 192 = .ok (.iload_n 3, 1) := by decide +kernel
theorem dL_law_193 : decode cL_law 193 = .ok (.iconst 3, 1) := by decide +kernel
theorem dL_law_194 : decode cL_law 194 = .ok (.iadd, 1) := by decide +kernel
theorem dL_law_195 : decode cL_law 195 = .ok (.iaload, 1) := by decide +kernel
theorem dL_law_196 : decode cL_law 196 = .ok (.invokevirtual 22, 3) := by decide +kernel
theorem dL_law_199 : decode cL_law 199 = .ok (.if_icmp .eq 619, 3) := by decide +kernel
theorem dL_law_202 : decode cL_law 202 = .ok (.iconst 0, 1) := by decide +kernel
theorem dL_law_203 : decode cL_law 203 = .ok (.ireturn, 1) := by decide +kernel
theorem dL_law_204 : decode cL_law 204 = .ok (.aload_n 1, 1) := by decide +kernel
theorem dL_law_205 : decode cL_law 205 = .ok (.aload_n 0, 1) := by decide +kernel
theorem dL_law_206 : decode cL_law 206 = .ok (.iload_n 3, 1) := by decide +kernel
theorem dL_law_207 : decode cL_law 207 = .ok (.iconst 1, 1) := by decide +kernel
theorem dL_law_208 : decode cL_law 208 = .ok (.iadd, 1) := by decide +kernel
theorem dL_law_209 : decode cL_law 209 = .ok (.iaload, 1) := by decide +kernel
theorem dL_law_210 : decode cL_law 210 = .ok (.aload_n 0, 1) := by decide +kernel
theorem dL_law_211 : decode cL_law 211 = .ok (.iload_n 3, 1) := by decide +kernel
theorem dL_law_212 : decode cL_law 212 = .ok (.iconst 2, 1) := by decide +kernel
theorem dL_law_213 : decode cL_law 213 = .ok (.iadd, 1) := by decide +kernel
theorem dL_law_214 : decode cL_law 214 = .ok (.iaload, 1) := by decide +kernel
theorem dL_law_215 : decode cL_law 215 = .ok (.aload_n 0, 1) := by decide +kernel
theorem dL_law_216 : decode cL_law 216 = .ok (.iload_n 3, 1) := by decide +kernel
theorem dL_law_217 : decode cL_law 217 = .ok (.iconst 3, 1) := by decide +kernel
theorem dL_law_218 : decode cL_law 218 = .ok (.iadd, 1) := by decide +kernel
theorem dL_law_219 : decode cL_law 219 = .ok (.iaload, 1) := by decide +kernel
theorem dL_law_220 : decode cL_law 220 = .ok (.ifCond .eq 7, 3) := by decide +kernel
theorem dL_law_223 : decode cL_law 223 = .ok (.iconst 1, 1) := by decide +kernel
theorem dL_law_224 : decode cL_law 224 = .ok (.goto 4, 3) := by decide +kernel
theorem dL_law_227 : decode cL_law 227 = .ok (.iconst 0, 1) := by decide +kernel
theorem dL_law_228 : decode cL_law 228 = .ok (.invokevirtual 23, 3) := by decide +kernel
theorem dL_law_231 : decode cL_law 231 = .ok (.aload_n 2, 1) := by decide +kernel
theorem dL_law_232 : decode cL_law 232 = .ok (.aload_n 0, 1) := by decide +kernel
theorem dL_law_233 : decode cL_law 233 = .ok (.iload_n 3, 1) := by decide +kernel
theorem dL_law_234 : decode cL_law 234 = .ok (.iconst 1, 1) := by decide +kernel
theorem dL_law_235 : decode cL_law 235 = .ok (.iadd, 1) := by decide +kernel
theorem dL_law_236 : decode cL_law 236 = .ok (.iaload, 1) := by decide +kernel
theorem dL_law_237 : decode cL_law 237 = .ok (.aload_n 0, 1) := by decide +kernel
theorem dL_law_238 : decode cL_law 238 = .ok (.iload_n 3, 1) := by decide +kernel
theorem dL_law_239 : decode cL_law 239 = .ok (.iconst 2, 1) := by decide +kernel
theorem dL_law_240 : decode cL_law 240 = .ok (.iadd, 1) := by decide +kernel
theorem dL_law_241 : decode cL_law 241 = .ok (.iaload, 1) := by decide +kernel
theorem dL_law_242 : decode cL_law 242 = .ok (.aload_n 0, 1) := by decide +kernel
theorem dL_law_243 : decode cL_law 243 = .ok (.iload_n 3, 1) := by decide +kernel
theorem dL_law_244 : decode cL_law 244 = .ok (.iconst 3, 1) := by decide +kernel
theorem dL_law_245 : decode cL_law 245 = .ok (.iadd, 1) := by decide +kernel
theorem dL_law_246 : decode cL_law 246 = .ok (.iaload, 1) := by decide +kernel
theorem dL_law_247 : decode cL_law 247 = .ok (.ifCond .eq 7, 3) := by decide +kernel
theorem dL_law_250 : decode cL_law 250 = .ok (.iconst 1, 1) := by decide +kernel
theorem dL_law_251 : decode cL_law 251 = .ok (.goto 4, 3) := by decide +kernel
theorem dL_law_254 : decode cL_law 254 = .ok (.iconst 0, 1) := by decide +kernel
theorem dL_law_255 : decode cL_law 255 = .ok (.invokevirtual 27, 3) := by decide +kernel
theorem dL_law_258 : decode cL_law 258 = .ok (.if_icmp .eq 560, 3) := by decide +kernel
theorem dL_law_261 : decode cL_law 261 = .ok (.iconst 0, 1) := by decide +kernel
theorem dL_law_262 : decode cL_law 262 = .ok (.ireturn, 1) := by decide +kernel
theorem dL_law_263 : decode cL_law 263 = .ok (.aload_n 1, 1) := by decide +kernel
theorem dL_law_264 : decode cL_law 264 = .ok (.aload_n 0, 1) := by decide +kernel
theorem dL_law_265 : decode cL_law 265 = .ok (.iload_n 3, 1) := by decide +kernel
theorem dL_law_266 : decode cL_law 266 = .ok (.iconst 1, 1) := by decide +kernel
theorem dL_law_267 : decode cL_law 267 = .ok (.iadd, 1) := by decide +kernel
theorem dL_law_268 : decode cL_law 268 = .ok (.iaload, 1) := by decide +kernel
theorem dL_law_269 : decode cL_law 269 = .ok (.aload_n 0, 1) := by decide +kernel
theorem dL_law_270 : decode cL_law 270 = .ok (.iload_n 3, 1) := by decide +kernel
theorem dL_law_271 : decode cL_law 271 = .ok (.iconst 2, 1) := by decide +kernel
theorem dL_law_272 : decode cL_law 272 = .ok (.iadd, 1) := by decide +kernel
theorem dL_law_273 : decode cL_law 273 = .ok (.iaload, 1) := by decide +kernel
theorem dL_law_274 : decode cL_law 274 = .ok (.invokevirtual 28, 3) := by decide +kernel
theorem dL_law_277 : decode cL_law 277 = .ok (.aload_n 2, 1) := by decide +kernel
theorem dL_law_278 : decode cL_law 278 = .ok (.aload_n 0, 1) := by decide +kernel
theorem dL_law_279 : decode cL_law 279 = .ok (.iload_n 3, 1) := by decide +kernel
theorem dL_law_280 : decode cL_law 280 = .ok (.iconst 1, 1) := by decide +kernel
theorem dL_law_281 : decode cL_law 281 = .ok (.iadd, 1) := by decide +kernel
theorem dL_law_282 : decode cL_law 282 = .ok (.iaload, 1) := by decide +kernel
theorem dL_law_283 : decode cL_law 283 = .ok (.aload_n 0, 1) := by decide +kernel
theorem dL_law_284 : decode cL_law 284 = .ok (.iload_n 3, 1) := by decide +kernel
theorem dL_law_285 : decode cL_law 285 = .ok (.iconst 2, 1) := by decide +kernel
theorem dL_law_286 : decode cL_law 286 = .ok (.iadd, 1) := by decide +kernel
theorem dL_law_287 : decode cL_law 287 = .ok (.iaload, 1) := by decide +kernel
theorem dL_law_288 : decode cL_law 288 = .ok (.invokevirtual 31, 3) := by decide +kernel
theorem dL_law_291 : decode cL_law 291 = .ok (.if_icmp .eq 527, 3) := by decide +kernel
theorem dL_law_294 : decode cL_law 294 = .ok (.iconst 0, 1) := by decide +kernel
theorem dL_law_295 : decode cL_law 295 = .ok (.ireturn, 1) := by decide +kernel
theorem dL_law_296 : decode cL_law 296 = .ok (.aload_n 1, 1) := by decide +kernel
theorem dL_law_297 : decode cL_law 297 = .ok (.aload_n 0, 1) := by decide +kernel
theorem dL_law_298 : decode cL_law 298 = .ok (.iload_n 3, 1) := by decide +kernel
theorem dL_law_299 : decode cL_law 299 = .ok (.iconst 1, 1) := by decide +kernel
theorem dL_law_300 : decode cL_law 300 = .ok (.iadd, 1) := by decide +kernel
theorem dL_law_301 : decode cL_law 301 = .ok (.iaload, 1) := by decide +kernel
theorem dL_law_302 : decode cL_law 302 = .ok (.aload_n 0, 1) := by decide +kernel
theorem dL_law_303 : decode cL_law 303 = .ok (.iload_n 3, 1) := by decide +kernel
theorem dL_law_304 : decode cL_law 304 = .ok (.iconst 2, 1) := by decide +kernel
theorem dL_law_305 : decode cL_law 305 = .ok (.iadd, 1) := by decide +kernel
theorem dL_law_306 : decode cL_law 306 = .ok (.iaload, 1) := by decide +kernel
theorem dL_law_307 : decode cL_law 307 = .ok (.aload_n 0, 1) := by decide +kernel
theorem dL_law_308 : decode cL_law 308 = .ok (.iload_n 3, 1) := by decide +kernel
theorem dL_law_309 : decode cL_law 309 = .ok (.iconst 3, 1) := by decide +kernel
theorem dL_law_310 : decode cL_law 310 = .ok (.iadd, 1) := by decide +kernel
theorem dL_law_311 : decode cL_law 311 = .ok (.iaload, 1) := by decide +kernel
theorem dL_law_312 : decode cL_law 312 = .ok (.invokevirtual 32, 3) := by decide +kernel
theorem dL_law_315 : decode cL_law 315 = .ok (.aload_n 2, 1) := by decide +kernel
theorem dL_law_316 : decode cL_law 316 = .ok (.aload_n 0, 1) := by decide +kernel
theorem dL_law_317 : decode cL_law 317 = .ok (.iload_n 3, 1) := by decide +kernel
theorem dL_law_318 : decode cL_law 318 = .ok (.iconst 1, 1) := by decide +kernel
theorem dL_law_319 : decode cL_law 319 = .ok (.iadd, 1) := by decide +kernel
theorem dL_law_320 : decode cL_law 320 = .ok (.iaload, 1) := by decide +kernel
theorem dL_law_321 : decode cL_law 321 = .ok (.aload_n 0, 1) := by decide +kernel
theorem dL_law_322 : decode cL_law 322 = .ok (.iload_n 3, 1) := by decide +kernel
theorem dL_law_323 : decode cL_law 323 = .ok (.iconst 2, 1) := by decide +kernel
theorem dL_law_324 : decode cL_law 324 = .ok (.iadd, 1) := by decide +kernel
theorem dL_law_325 : decode cL_law 325 = .ok (.iaload, 1) := by decide +kernel
theorem dL_law_326 : decode cL_law 326 = .ok (.aload_n 0, 1) := by decide +kernel
theorem dL_law_327 : decode cL_law 327 = .ok (.iload_n 3, 1) := by decide +kernel
theorem dL_law_328 : decode cL_law 328 = .ok (.iconst 3, 1) := by decide +kernel
theorem dL_law_329 : decode cL_law 329 = .ok (.iadd, 1) := by decide +kernel
theorem dL_law_330 : decode cL_law 330 = .ok (.iaload, 1) := by decide +kernel
theorem dL_law_331 : decode cL_law 331 = .ok (.invokevirtual 35, 3) := by decide +kernel
theorem dL_law_334 : decode cL_law 334 = .ok (.if_icmp .eq 484, 3) := by decide +kernel
theorem dL_law_337 : decode cL_law 337 = .ok (.iconst 0, 1) := by decide +kernel
theorem dL_law_338 : decode cL_law 338 = .ok (.ireturn, 1) := by decide +kernel
theorem dL_law_339 : decode cL_law 339 = .ok (.aload_n 1, 1) := by decide +kernel
theorem dL_law_340 : decode cL_law 340 = .ok (.aload_n 0, 1) := by decide +kernel
theorem dL_law_341 : decode cL_law 341 = .ok (.iload_n 3, 1) := by decide +kernel
theorem dL_law_342 : decode cL_law 342 = .ok (.iconst 1, 1) := by decide +kernel
theorem dL_law_343 : decode cL_law 343 = .ok (.iadd, 1) := by decide +kernel
theorem dL_law_344 : decode cL_law 344 = .ok (.iaload, 1) := by decide +kernel
theorem dL_law_345 : decode cL_law 345 = .ok (.aload_n 0, 1) := by decide +kernel
theorem dL_law_346 : decode cL_law 346 = .ok (.iload_n 3, 1) := by decide +kernel
theorem dL_law_347 : decode cL_law 347 = .ok (.iconst 2, 1) := by decide +kernel
theorem dL_law_348 : decode cL_law 348 = .ok (.iadd, 1) := by decide +kernel
theorem dL_law_349 : decode cL_law 349 = .ok (.iaload, 1) := by decide +kernel
theorem dL_law_350 : decode cL_law 350 = .ok (.aload_n 0, 1) := by decide +kernel
theorem dL_law_351 : decode cL_law 351 = .ok (.iload_n 3, 1) := by decide +kernel
theorem dL_law_352 : decode cL_law 352 = .ok (.iconst 3, 1) := by decide +kernel
theorem dL_law_353 : decode cL_law 353 = .ok (.iadd, 1) := by decide +kernel
theorem dL_law_354 : decode cL_law 354 = .ok (.iaload, 1) := by decide +kernel
theorem dL_law_355 : decode cL_law 355 = .ok (.invokevirtual 36, 3) := by decide +kernel
theorem dL_law_358 : decode cL_law 358 = .ok (.aload_n 2, 1) := by decide +kernel
theorem dL_law_359 : decode cL_law 359 = .ok (.aload_n 0, 1) := by decide +kernel
theorem dL_law_360 : decode cL_law 360 = .ok (.iload_n 3, 1) := by decide +kernel
theorem dL_law_361 : decode cL_law 361 = .ok (.iconst 1, 1) := by decide +kernel
theorem dL_law_362 : decode cL_law 362 = .ok (.iadd, 1) := by decide +kernel
theorem dL_law_363 : decode cL_law 363 = .ok (.iaload, 1) := by decide +kernel
theorem dL_law_364 : decode cL_law 364 = .ok (.aload_n 0, 1) := by decide +kernel
theorem dL_law_365 : decode cL_law 365 = .ok (.iload_n 3, 1) := by decide +kernel
theorem dL_law_366 : decode cL_law 366 = .ok (.iconst 2, 1) := by decide +kernel
theorem dL_law_367 : decode cL_law 367 = .ok (.iadd, 1) := by decide +kernel
theorem dL_law_368 : decode cL_law 368 = .ok (.iaload, 1) := by decide +kernel
theorem dL_law_369 : decode cL_law 369 = .ok (.aload_n 0, 1) := by decide +kernel
theorem dL_law_370 : decode cL_law 370 = .ok (.iload_n 3, 1) := by decide +kernel
theorem dL_law_371 : decode cL_law 371 = .ok (.iconst 3, 1) := by decide +kernel
theorem dL_law_372 : decode cL_law 372 = .ok (.iadd, 1) := by decide +kernel
theorem dL_law_373 : decode cL_law 373 = .ok (.iaload, 1) := by decide +kernel
theorem dL_law_374 : decode cL_law 374 = .ok (.invokevirtual 39, 3) := by decide +kernel
theorem dL_law_377 : decode cL_law 377 = .ok (.if_icmp .eq 441, 3) := by decide +kernel
theorem dL_law_380 : decode cL_law 380 = .ok (.iconst 0, 1) := by decide +kernel
theorem dL_law_381 : decode cL_law 381 = .ok (.ireturn, 1) := by decide +kernel
theorem dL_law_382 : decode cL_law 382 = .ok (.aload_n 1, 1) := by decide +kernel
theorem dL_law_383 : decode cL_law 383 = .ok (.aload_n 0, 1) := by decide +kernel
theorem dL_law_384 : decode cL_law 384 = .ok (.iload_n 3, 1) := by decide +kernel
theorem dL_law_385 : decode cL_law 385 = .ok (.iconst 1, 1) := by decide +kernel
theorem dL_law_386 : decode cL_law 386 = .ok (.iadd, 1) := by decide +kernel
theorem dL_law_387 : decode cL_law 387 = .ok (.iaload, 1) := by decide +kernel
theorem dL_law_388 : decode cL_law 388 = .ok (.aload_n 0, 1) := by decide +kernel
theorem dL_law_389 : decode cL_law 389 = .ok (.iload_n 3, 1) := by decide +kernel
theorem dL_law_390 : decode cL_law 390 = .ok (.iconst 2, 1) := by decide +kernel
theorem dL_law_391 : decode cL_law 391 = .ok (.iadd, 1) := by decide +kernel
theorem dL_law_392 : decode cL_law 392 = .ok (.iaload, 1) := by decide +kernel
theorem dL_law_393 : decode cL_law 393 = .ok (.aload_n 0, 1) := by decide +kernel
theorem dL_law_394 : decode cL_law 394 = .ok (.iload_n 3, 1) := by decide +kernel
theorem dL_law_395 : decode cL_law 395 = .ok (.iconst 3, 1) := by decide +kernel
theorem dL_law_396 : decode cL_law 396 = .ok (.iadd, 1) := by decide +kernel
theorem dL_law_397 : decode cL_law 397 = .ok (.iaload, 1) := by decide +kernel
theorem dL_law_398 : decode cL_law 398 = .ok (.invokevirtual 40, 3) := by decide +kernel
theorem dL_law_401 : decode cL_law 401 = .ok (.aload_n 2, 1) := by decide +kernel
theorem dL_law_402 : decode cL_law 402 = .ok (.aload_n 0, 1) := by decide +kernel
theorem dL_law_403 : decode cL_law 403 = .ok (.iload_n 3, 1) := by decide +kernel
theorem dL_law_404 : decode cL_law 404 = .ok (.iconst 1, 1) := by decide +kernel
theorem dL_law_405 : decode cL_law 405 = .ok (.iadd, 1) := by decide +kernel
theorem dL_law_406 : decode cL_law 406 = .ok (.iaload, 1) := by decide +kernel
theorem dL_law_407 : decode cL_law 407 = .ok (.aload_n 0, 1) := by decide +kernel
theorem dL_law_408 : decode cL_law 408 = .ok (.iload_n 3, 1) := by decide +kernel
theorem dL_law_409 : decode cL_law 409 = .ok (.iconst 2, 1) := by decide +kernel
theorem dL_law_410 : decode cL_law 410 = .ok (.iadd, 1) := by decide +kernel
theorem dL_law_411 : decode cL_law 411 = .ok (.iaload, 1) := by decide +kernel
theorem dL_law_412 : decode cL_law 412 = .ok (.aload_n 0, 1) := by decide +kernel
theorem dL_law_413 : decode cL_law 413 = .ok (.iload_n 3, 1) := by decide +kernel
theorem dL_law_414 : decode cL_law 414 = .ok (.iconst 3, 1) := by decide +kernel
theorem dL_law_415 : decode cL_law 415 = .ok (.iadd, 1) := by decide +kernel
theorem dL_law_416 : decode cL_law 416 = .ok (.iaload, 1) := by decide +kernel
theorem dL_law_417 : decode cL_law 417 = .ok (.invokevirtual 43, 3) := by decide +kernel
theorem dL_law_420 : decode cL_law 420 = .ok (.if_icmp .eq 398, 3) := by decide +kernel
theorem dL_law_423 : decode cL_law 423 = .ok (.iconst 0, 1) := by decide +kernel
theorem dL_law_424 : decode cL_law 424 = .ok (.ireturn, 1) := by decide +kernel
theorem dL_law_425 : decode cL_law 425 = .ok (.aload_n 1, 1) := by decide +kernel
theorem dL_law_426 : decode cL_law 426 = .ok (.aload_n 0, 1) := by decide +kernel
theorem dL_law_427 : decode cL_law 427 = .ok (.iload_n 3, 1) := by decide +kernel
theorem dL_law_428 : decode cL_law 428 = .ok (.iconst 1, 1) := by decide +kernel
theorem dL_law_429 : decode cL_law 429 = .ok (.iadd, 1) := by decide +kernel
theorem dL_law_430 : decode cL_law 430 = .ok (.iaload, 1) := by decide +kernel
theorem dL_law_431 : decode cL_law 431 = .ok (.invokevirtual 44, 3) := by decide +kernel
theorem dL_law_434 : decode cL_law 434 = .ok (.aload_n 2, 1) := by decide +kernel
theorem dL_law_435 : decode cL_law 435 = .ok (.aload_n 0, 1) := by decide +kernel
theorem dL_law_436 : decode cL_law 436 = .ok (.iload_n 3, 1) := by decide +kernel
theorem dL_law_437 : decode cL_law 437 = .ok (.iconst 1, 1) := by decide +kernel
theorem dL_law_438 : decode cL_law 438 = .ok (.iadd, 1) := by decide +kernel
theorem dL_law_439 : decode cL_law 439 = .ok (.iaload, 1) := by decide +kernel
theorem dL_law_440 : decode cL_law 440 = .ok (.invokevirtual 48, 3) := by decide +kernel
theorem dL_law_443 : decode cL_law 443 = .ok (.if_icmp .eq 375, 3) := by decide +kernel
theorem dL_law_446 : decode cL_law 446 = .ok (.iconst 0, 1) := by decide +kernel
theorem dL_law_447 : decode cL_law 447 = .ok (.ireturn, 1) := by decide +kernel
theorem dL_law_448 : decode cL_law 448 = .ok (.aload_n 1, 1) := by decide +kernel
theorem dL_law_449 : decode cL_law 449 = .ok (.aload_n 0, 1) := by decide +kernel
theorem dL_law_450 : decode cL_law 450 = .ok (.iload_n 3, 1) := by decide +kernel
theorem dL_law_451 : decode cL_law 451 = .ok (.iconst 1, 1) := by decide +kernel
theorem dL_law_452 : decode cL_law 452 = .ok (.iadd, 1) := by decide +kernel
theorem dL_law_453 : decode cL_law 453 = .ok (.iaload, 1) := by decide +kernel
theorem dL_law_454 : decode cL_law 454 = .ok (.aload_n 0, 1) := by decide +kernel
theorem dL_law_455 : decode cL_law 455 = .ok (.iload_n 3, 1) := by decide +kernel
theorem dL_law_456 : decode cL_law 456 = .ok (.iconst 2, 1) := by decide +kernel
theorem dL_law_457 : decode cL_law 457 = .ok (.iadd, 1) := by decide +kernel
theorem dL_law_458 : decode cL_law 458 = .ok (.iaload, 1) := by decide +kernel
theorem dL_law_459 : decode cL_law 459 = .ok (.invokevirtual 49, 3) := by decide +kernel
theorem dL_law_462 : decode cL_law 462 = .ok (.aload_n 2, 1) := by decide +kernel
theorem dL_law_463 : decode cL_law 463 = .ok (.aload_n 0, 1) := by decide +kernel
theorem dL_law_464 : decode cL_law 464 = .ok (.iload_n 3, 1) := by decide +kernel
theorem dL_law_465 : decode cL_law 465 = .ok (.iconst 1, 1) := by decide +kernel
theorem dL_law_466 : decode cL_law 466 = .ok (.iadd, 1) := by decide +kernel
theorem dL_law_467 : decode cL_law 467 = .ok (.iaload, 1) := by decide +kernel
theorem dL_law_468 : decode cL_law 468 = .ok (.aload_n 0, 1) := by decide +kernel
theorem dL_law_469 : decode cL_law 469 = .ok (.iload_n 3, 1) := by decide +kernel
theorem dL_law_470 : decode cL_law 470 = .ok (.iconst 2, 1) := by decide +kernel
theorem dL_law_471 : decode cL_law 471 = .ok (.iadd, 1) := by decide +kernel
theorem dL_law_472 : decode cL_law 472 = .ok (.iaload, 1) := by decide +kernel
theorem dL_law_473 : decode cL_law 473 = .ok (.invokevirtual 52, 3) := by decide +kernel
theorem dL_law_476 : decode cL_law 476 = .ok (.if_icmp .eq 342, 3) := by decide +kernel
theorem dL_law_479 : decode cL_law 479 = .ok (.iconst 0, 1) := by decide +kernel
theorem dL_law_480 : decode cL_law 480 = .ok (.ireturn, 1) := by decide +kernel
theorem dL_law_481 : decode cL_law 481 = .ok (.aload_n 1, 1) := by decide +kernel
theorem dL_law_482 : decode cL_law 482 = .ok (.aload_n 0, 1) := by decide +kernel
theorem dL_law_483 : decode cL_law 483 = .ok (.iload_n 3, 1) := by decide +kernel
theorem dL_law_484 : decode cL_law 484 = .ok (.iconst 1, 1) := by decide +kernel
theorem dL_law_485 : decode cL_law 485 = .ok (.iadd, 1) := by decide +kernel
theorem dL_law_486 : decode cL_law 486 = .ok (.iaload, 1) := by decide +kernel
theorem dL_law_487 : decode cL_law 487 = .ok (.aload_n 0, 1) := by decide +kernel
theorem dL_law_488 : decode cL_law 488 = .ok (.iload_n 3, 1) := by decide +kernel
theorem dL_law_489 : decode cL_law 489 = .ok (.iconst 2, 1) := by decide +kernel
theorem dL_law_490 : decode cL_law 490 = .ok (.iadd, 1) := by decide +kernel
theorem dL_law_491 : decode cL_law 491 = .ok (.iaload, 1) := by decide +kernel
theorem dL_law_492 : decode cL_law 492 = .ok (.aload_n 0, 1) := by decide +kernel
theorem dL_law_493 : decode cL_law 493 = .ok (.iload_n 3, 1) := by decide +kernel
theorem dL_law_494 : decode cL_law 494 = .ok (.iconst 3, 1) := by decide +kernel
theorem dL_law_495 : decode cL_law 495 = .ok (.iadd, 1) := by decide +kernel
theorem dL_law_496 : decode cL_law 496 = .ok (.iaload, 1) := by decide +kernel
theorem dL_law_497 : decode cL_law 497 = .ok (.invokevirtual 53, 3) := by decide +kernel
theorem dL_law_500 : decode cL_law 500 = .ok (.aload_n 2, 1) := by decide +kernel
theorem dL_law_501 : decode cL_law 501 = .ok (.aload_n 0, 1) := by decide +kernel
theorem dL_law_502 : decode cL_law 502 = .ok (.iload_n 3, 1) := by decide +kernel
theorem dL_law_503 : decode cL_law 503 = .ok (.iconst 1, 1) := by decide +kernel
theorem dL_law_504 : decode cL_law 504 = .ok (.iadd, 1) := by decide +kernel
theorem dL_law_505 : decode cL_law 505 = .ok (.iaload, 1) := by decide +kernel
theorem dL_law_506 : decode cL_law 506 = .ok (.aload_n 0, 1) := by decide +kernel
theorem dL_law_507 : decode cL_law 507 = .ok (.iload_n 3, 1) := by decide +kernel
theorem dL_law_508 : decode cL_law 508 = .ok (.iconst 2, 1) := by decide +kernel
theorem dL_law_509 : decode cL_law 509 = .ok (.iadd, 1) := by decide +kernel
theorem dL_law_510 : decode cL_law 510 = .ok (.iaload, 1) := by decide +kernel
theorem dL_law_511 : decode cL_law 511 = .ok (.aload_n 0, 1) := by decide +kernel
theorem dL_law_512 : decode cL_law 512 = .ok (.iload_n 3, 1) := by decide +kernel
theorem dL_law_513 : decode cL_law 513 = .ok (.iconst 3, 1) := by decide +kernel
theorem dL_law_514 : decode cL_law 514 = .ok (.iadd, 1) := by decide +kernel
theorem dL_law_515 : decode cL_law 515 = .ok (.iaload, 1) := by decide +kernel
theorem dL_law_516 : decode cL_law 516 = .ok (.invokevirtual 56, 3) := by decide +kernel
theorem dL_law_519 : decode cL_law 519 = .ok (.if_icmp .eq 299, 3) := by decide +kernel
theorem dL_law_522 : decode cL_law 522 = .ok (.iconst 0, 1) := by decide +kernel
theorem dL_law_523 : decode cL_law 523 = .ok (.ireturn, 1) := by decide +kernel
theorem dL_law_524 : decode cL_law 524 = .ok (.aload_n 1, 1) := by decide +kernel
theorem dL_law_525 : decode cL_law 525 = .ok (.aload_n 0, 1) := by decide +kernel
theorem dL_law_526 : decode cL_law 526 = .ok (.iload_n 3, 1) := by decide +kernel
theorem dL_law_527 : decode cL_law 527 = .ok (.iconst 1, 1) := by decide +kernel
theorem dL_law_528 : decode cL_law 528 = .ok (.iadd, 1) := by decide +kernel
theorem dL_law_529 : decode cL_law 529 = .ok (.iaload, 1) := by decide +kernel
theorem dL_law_530 : decode cL_law 530 = .ok (.aload_n 0, 1) := by decide +kernel
theorem dL_law_531 : decode cL_law 531 = .ok (.iload_n 3, 1) := by decide +kernel
theorem dL_law_532 : decode cL_law 532 = .ok (.iconst 2, 1) := by decide +kernel
theorem dL_law_533 : decode cL_law 533 = .ok (.iadd, 1) := by decide +kernel
theorem dL_law_534 : decode cL_law 534 = .ok (.iaload, 1) := by decide +kernel
theorem dL_law_535 : decode cL_law 535 = .ok (.invokevirtual 57, 3) := by decide +kernel
theorem dL_law_538 : decode cL_law 538 = .ok (.aload_n 2, 1) := by decide +kernel
theorem dL_law_539 : decode cL_law 539 = .ok (.aload_n 0, 1) := by decide +kernel
theorem dL_law_540 : decode cL_law 540 = .ok (.iload_n 3, 1) := by decide +kernel
theorem dL_law_541 : decode cL_law 541 = .ok (.iconst 1, 1) := by decide +kernel
theorem dL_law_542 : decode cL_law 542 = .ok (.iadd, 1) := by decide +kernel
theorem dL_law_543 : decode cL_law 543 = .ok (.iaload, 1) := by decide +kernel
theorem dL_law_544 : decode cL_law 544 = .ok (.aload_n 0, 1) := by decide +kernel
theorem dL_law_545 : decode cL_law 545 = .ok (.iload_n 3, 1) := by decide +kernel
theorem dL_law_546 : decode cL_law 546 = .ok (.iconst 2, 1) := by decide +kernel
theorem dL_law_547 : decode cL_law 547 = .ok (.iadd, 1) := by decide +kernel
theorem dL_law_548 : decode cL_law 548 = .ok (.iaload, 1) := by decide +kernel
theorem dL_law_549 : decode cL_law 549 = .ok (.invokevirtual 60, 3) := by decide +kernel
theorem dL_law_552 : decode cL_law 552 = .ok (.if_icmp .eq 266, 3) := by decide +kernel
theorem dL_law_555 : decode cL_law 555 = .ok (.iconst 0, 1) := by decide +kernel
theorem dL_law_556 : decode cL_law 556 = .ok (.ireturn, 1) := by decide +kernel
theorem dL_law_557 : decode cL_law 557 = .ok (.aload_n 1, 1) := by decide +kernel
theorem dL_law_558 : decode cL_law 558 = .ok (.aload_n 0, 1) := by decide +kernel
theorem dL_law_559 : decode cL_law 559 = .ok (.iload_n 3, 1) := by decide +kernel
theorem dL_law_560 : decode cL_law 560 = .ok (.iconst 1, 1) := by decide +kernel
theorem dL_law_561 : decode cL_law 561 = .ok (.iadd, 1) := by decide +kernel
theorem dL_law_562 : decode cL_law 562 = .ok (.iaload, 1) := by decide +kernel
theorem dL_law_563 : decode cL_law 563 = .ok (.invokevirtual 61, 3) := by decide +kernel
theorem dL_law_566 : decode cL_law 566 = .ok (.aload_n 2, 1) := by decide +kernel
theorem dL_law_567 : decode cL_law 567 = .ok (.aload_n 0, 1) := by decide +kernel
theorem dL_law_568 : decode cL_law 568 = .ok (.iload_n 3, 1) := by decide +kernel
theorem dL_law_569 : decode cL_law 569 = .ok (.iconst 1, 1) := by decide +kernel
theorem dL_law_570 : decode cL_law 570 = .ok (.iadd, 1) := by decide +kernel
theorem dL_law_571 : decode cL_law 571 = .ok (.iaload, 1) := by decide +kernel
theorem dL_law_572 : decode cL_law 572 = .ok (.invokevirtual 64, 3) := by decide +kernel
theorem dL_law_575 : decode cL_law 575 = .ok (.if_icmp .eq 243, 3) := by decide +kernel
theorem dL_law_578 : decode cL_law 578 = .ok (.iconst 0, 1) := by decide +kernel
theorem dL_law_579 : decode cL_law 579 = .ok (.ireturn, 1) := by decide +kernel
theorem dL_law_580 : decode cL_law 580 = .ok (.aload_n 1, 1) := by decide +kernel
theorem dL_law_581 : decode cL_law 581 = .ok (.invokevirtual 65, 3) := by decide +kernel
theorem dL_law_584 : decode cL_law 584 = .ok (.aload_n 2, 1) := by decide +kernel
theorem dL_law_585 : decode cL_law 585 = .ok (.invokevirtual 69, 3) := by decide +kernel
theorem dL_law_588 : decode cL_law 588 = .ok (.if_icmp .eq 230, 3) := by decide +kernel
theorem dL_law_591 : decode cL_law 591 = .ok (.iconst 0, 1) := by decide +kernel
theorem dL_law_592 : decode cL_law 592 = .ok (.ireturn, 1) := by decide +kernel
theorem dL_law_593 : decode cL_law 593 = .ok (.aload_n 1, 1) := by decide +kernel
theorem dL_law_594 : decode cL_law 594 = .ok (.aload_n 0, 1) := by decide +kernel
theorem dL_law_595 : decode cL_law 595 = .ok (.iload_n 3, 1) := by decide +kernel
theorem dL_law_596 : decode cL_law 596 = .ok (.iconst 1, 1) := by decide +kernel
theorem dL_law_597 : decode cL_law 597 = .ok (.iadd, 1) := by decide +kernel
theorem dL_law_598 : decode cL_law 598 = .ok (.iaload, 1) := by decide +kernel
theorem dL_law_599 : decode cL_law 599 = .ok (.aload_n 0, 1) := by decide +kernel
theorem dL_law_600 : decode cL_law 600 = .ok (.iload_n 3, 1) := by decide +kernel
theorem dL_law_601 : decode cL_law 601 = .ok (.iconst 2, 1) := by decide +kernel
theorem dL_law_602 : decode cL_law 602 = .ok (.iadd, 1) := by decide +kernel
theorem dL_law_603 : decode cL_law 603 = .ok (.iaload, 1) := by decide +kernel
theorem dL_law_604 : decode cL_law 604 = .ok (.aload_n 0, 1) := by decide +kernel
theorem dL_law_605 : decode cL_law 605 = .ok (.iload_n 3, 1) := by decide +kernel
theorem dL_law_606 : decode cL_law 606 = .ok (.iconst 3, 1) := by decide +kernel
theorem dL_law_607 : decode cL_law 607 = .ok (.iadd, 1) := by decide +kernel
theorem dL_law_608 : decode cL_law 608 = .ok (.iaload, 1) := by decide +kernel
theorem dL_law_609 : decode cL_law 609 = .ok (.invokevirtual 70, 3) := by decide +kernel
theorem dL_law_612 : decode cL_law 612 = .ok (.aload_n 2, 1) := by decide +kernel
theorem dL_law_613 : decode cL_law 613 = .ok (.aload_n 0, 1) := by decide +kernel
theorem dL_law_614 : decode cL_law 614 = .ok (.iload_n 3, 1) := by decide +kernel
theorem dL_law_615 : decode cL_law 615 = .ok (.iconst 1, 1) := by decide +kernel
theorem dL_law_616 : decode cL_law 616 = .ok (.iadd, 1) := by decide +kernel
theorem dL_law_617 : decode cL_law 617 = .ok (.iaload, 1) := by decide +kernel
theorem dL_law_618 : decode cL_law 618 = .ok (.aload_n 0, 1) := by decide +kernel
theorem dL_law_619 : decode cL_law 619 = .ok (.iload_n 3, 1) := by decide +kernel
theorem dL_law_620 : decode cL_law 620 = .ok (.iconst 2, 1) := by decide +kernel
theorem dL_law_621 : decode cL_law 621 = .ok (.iadd, 1) := by decide +kernel
theorem dL_law_622 : decode cL_law 622 = .ok (.iaload, 1) := by decide +kernel
theorem dL_law_623 : decode cL_law 623 = .ok (.aload_n 0, 1) := by decide +kernel
theorem dL_law_624 : decode cL_law 624 = .ok (.iload_n 3, 1) := by decide +kernel
theorem dL_law_625 : decode cL_law 625 = .ok (.iconst 3, 1) := by decide +kernel
theorem dL_law_626 : decode cL_law 626 = .ok (.iadd, 1) := by decide +kernel
theorem dL_law_627 : decode cL_law 627 = .ok (.iaload, 1) := by decide +kernel
theorem dL_law_628 : decode cL_law 628 = .ok (.invokevirtual 74, 3) := by decide +kernel
theorem dL_law_631 : decode cL_law 631 = .ok (.lcmp, 1) := by decide +kernel
theorem dL_law_632 : decode cL_law 632 = .ok (.ifCond .eq 186, 3) := by decide +kernel
theorem dL_law_635 : decode cL_law 635 = .ok (.iconst 0, 1) := by decide +kernel
theorem dL_law_636 : decode cL_law 636 = .ok (.ireturn, 1) := by decide +kernel
theorem dL_law_637 : decode cL_law 637 = .ok (.aload_n 1, 1) := by decide +kernel
theorem dL_law_638 : decode cL_law 638 = .ok (.aload_n 0, 1) := by decide +kernel
theorem dL_law_639 : decode cL_law 639 = .ok (.iload_n 3, 1) := by decide +kernel
theorem dL_law_640 : decode cL_law 640 = .ok (.iconst 1, 1) := by decide +kernel
theorem dL_law_641 : decode cL_law 641 = .ok (.iadd, 1) := by decide +kernel
theorem dL_law_642 : decode cL_law 642 = .ok (.iaload, 1) := by decide +kernel
theorem dL_law_643 : decode cL_law 643 = .ok (.aload_n 0, 1) := by decide +kernel
theorem dL_law_644 : decode cL_law 644 = .ok (.iload_n 3, 1) := by decide +kernel
theorem dL_law_645 : decode cL_law 645 = .ok (.iconst 2, 1) := by decide +kernel
theorem dL_law_646 : decode cL_law 646 = .ok (.iadd, 1) := by decide +kernel
theorem dL_law_647 : decode cL_law 647 = .ok (.iaload, 1) := by decide +kernel
theorem dL_law_648 : decode cL_law 648 = .ok (.aload_n 0, 1) := by decide +kernel
theorem dL_law_649 : decode cL_law 649 = .ok (.iload_n 3, 1) := by decide +kernel
theorem dL_law_650 : decode cL_law 650 = .ok (.iconst 3, 1) := by decide +kernel
theorem dL_law_651 : decode cL_law 651 = .ok (.iadd, 1) := by decide +kernel
theorem dL_law_652 : decode cL_law 652 = .ok (.iaload, 1) := by decide +kernel
theorem dL_law_653 : decode cL_law 653 = .ok (.invokevirtual 75, 3) := by decide +kernel
theorem dL_law_656 : decode cL_law 656 = .ok (.aload_n 2, 1) := by decide +kernel
theorem dL_law_657 : decode cL_law 657 = .ok (.aload_n 0, 1) := by decide +kernel
theorem dL_law_658 : decode cL_law 658 = .ok (.iload_n 3, 1) := by decide +kernel
theorem dL_law_659 : decode cL_law 659 = .ok (.iconst 1, 1) := by decide +kernel
theorem dL_law_660 : decode cL_law 660 = .ok (.iadd, 1) := by decide +kernel
theorem dL_law_661 : decode cL_law 661 = .ok (.iaload, 1) := by decide +kernel
theorem dL_law_662 : decode cL_law 662 = .ok (.aload_n 0, 1) := by decide +kernel
theorem dL_law_663 : decode cL_law 663 = .ok (.iload_n 3, 1) := by decide +kernel
theorem dL_law_664 : decode cL_law 664 = .ok (.iconst 2, 1) := by decide +kernel
theorem dL_law_665 : decode cL_law 665 = .ok (.iadd, 1) := by decide +kernel
theorem dL_law_666 : decode cL_law 666 = .ok (.iaload, 1) := by decide +kernel
theorem dL_law_667 : decode cL_law 667 = .ok (.aload_n 0, 1) := by decide +kernel
theorem dL_law_668 : decode cL_law 668 = .ok (.iload_n 3, 1) := by decide +kernel
theorem dL_law_669 : decode cL_law 669 = .ok (.iconst 3, 1) := by decide +kernel
theorem dL_law_670 : decode cL_law 670 = .ok (.iadd, 1) := by decide +kernel
theorem dL_law_671 : decode cL_law 671 = .ok (.iaload, 1) := by decide +kernel
theorem dL_law_672 : decode cL_law 672 = .ok (.invokevirtual 78, 3) := by decide +kernel
theorem dL_law_675 : decode cL_law 675 = .ok (.lcmp, 1) := by decide +kernel
theorem dL_law_676 : decode cL_law 676 = .ok (.ifCond .eq 142, 3) := by decide +kernel
theorem dL_law_679 : decode cL_law 679 = .ok (.iconst 0, 1) := by decide +kernel
theorem dL_law_680 : decode cL_law 680 = .ok (.ireturn, 1) := by decide +kernel
theorem dL_law_681 : decode cL_law 681 = .ok (.aload_n 1, 1) := by decide +kernel
theorem dL_law_682 : decode cL_law 682 = .ok (.aload_n 0, 1) := by decide +kernel
theorem dL_law_683 : decode cL_law 683 = .ok (.iload_n 3, 1) := by decide +kernel
theorem dL_law_684 : decode cL_law 684 = .ok (.iconst 1, 1) := by decide +kernel
theorem dL_law_685 : decode cL_law 685 = .ok (.iadd, 1) := by decide +kernel
theorem dL_law_686 : decode cL_law 686 = .ok (.iaload, 1) := by decide +kernel
theorem dL_law_687 : decode cL_law 687 = .ok (.aload_n 0, 1) := by decide +kernel
theorem dL_law_688 : decode cL_law 688 = .ok (.iload_n 3, 1) := by decide +kernel
theorem dL_law_689 : decode cL_law 689 = .ok (.iconst 2, 1) := by decide +kernel
theorem dL_law_690 : decode cL_law 690 = .ok (.iadd, 1) := by decide +kernel
theorem dL_law_691 : decode cL_law 691 = .ok (.iaload, 1) := by decide +kernel
theorem dL_law_692 : decode cL_law 692 = .ok (.invokevirtual 79, 3) := by decide +kernel
theorem dL_law_695 : decode cL_law 695 = .ok (.aload_n 2, 1) := by decide +kernel
theorem dL_law_696 : decode cL_law 696 = .ok (.aload_n 0, 1) := by decide +kernel
theorem dL_law_697 : decode cL_law 697 = .ok (.iload_n 3, 1) := by decide +kernel
theorem dL_law_698 : decode cL_law 698 = .ok (.iconst 1, 1) := by decide +kernel
theorem dL_law_699 : decode cL_law 699 = .ok (.iadd, 1) := by decide +kernel
theorem dL_law_700 : decode cL_law 700 = .ok (.iaload, 1) := by decide +kernel
theorem dL_law_701 : decode cL_law 701 = .ok (.aload_n 0, 1) := by decide +kernel
theorem dL_law_702 : decode cL_law 702 = .ok (.iload_n 3, 1) := by decide +kernel
theorem dL_law_703 : decode cL_law 703 = .ok (.iconst 2, 1) := by decide +kernel
theorem dL_law_704 : decode cL_law 704 = .ok (.iadd, 1) := by decide +kernel
theorem dL_law_705 : decode cL_law 705 = .ok (.iaload, 1) := by decide +kernel
theorem dL_law_706 : decode cL_law 706 = .ok (.invokevirtual 83, 3) := by decide +kernel
theorem dL_law_709 : decode cL_law 709 = .ok (.lcmp, 1) := by decide +kernel
theorem dL_law_710 : decode cL_law 710 = .ok (.ifCond .eq 108, 3) := by decide +kernel
theorem dL_law_713 : decode cL_law 713 = .ok (.iconst 0, 1) := by decide +kernel
theorem dL_law_714 : decode cL_law 714 = .ok (.ireturn, 1) := by decide +kernel
theorem dL_law_715 : decode cL_law 715 = .ok (.aload_n 1, 1) := by decide +kernel
theorem dL_law_716 : decode cL_law 716 = .ok (.aload_n 0, 1) := by decide +kernel
theorem dL_law_717 : decode cL_law 717 = .ok (.iload_n 3, 1) := by decide +kernel
theorem dL_law_718 : decode cL_law 718 = .ok (.iconst 1, 1) := by decide +kernel
theorem dL_law_719 : decode cL_law 719 = .ok (.iadd, 1) := by decide +kernel
theorem dL_law_720 : decode cL_law 720 = .ok (.iaload, 1) := by decide +kernel
theorem dL_law_721 : decode cL_law 721 = .ok (.aload_n 0, 1) := by decide +kernel
theorem dL_law_722 : decode cL_law 722 = .ok (.iload_n 3, 1) := by decide +kernel
theorem dL_law_723 : decode cL_law 723 = .ok (.iconst 2, 1) := by decide +kernel
theorem dL_law_724 : decode cL_law 724 = .ok (.iadd, 1) := by decide +kernel
theorem dL_law_725 : decode cL_law 725 = .ok (.iaload, 1) := by decide +kernel
theorem dL_law_726 : decode cL_law 726 = .ok (.aload_n 0, 1) := by decide +kernel
theorem dL_law_727 : decode cL_law 727 = .ok (.iload_n 3, 1) := by decide +kernel
theorem dL_law_728 : decode cL_law 728 = .ok (.iconst 3, 1) := by decide +kernel
theorem dL_law_729 : decode cL_law 729 = .ok (.iadd, 1) := by decide +kernel
theorem dL_law_730 : decode cL_law 730 = .ok (.iaload, 1) := by decide +kernel
theorem dL_law_731 : decode cL_law 731 = .ok (.invokevirtual 84, 3) := by decide +kernel
theorem dL_law_734 : decode cL_law 734 = .ok (.aload_n 2, 1) := by decide +kernel
theorem dL_law_735 : decode cL_law 735 = .ok (.aload_n 0, 1) := by decide +kernel
theorem dL_law_736 : decode cL_law 736 = .ok (.iload_n 3, 1) := by decide +kernel
theorem dL_law_737 : decode cL_law 737 = .ok (.iconst 1, 1) := by decide +kernel
theorem dL_law_738 : decode cL_law 738 = .ok (.iadd, 1) := by decide +kernel
theorem dL_law_739 : decode cL_law 739 = .ok (.iaload, 1) := by decide +kernel
theorem dL_law_740 : decode cL_law 740 = .ok (.aload_n 0, 1) := by decide +kernel
theorem dL_law_741 : decode cL_law 741 = .ok (.iload_n 3, 1) := by decide +kernel
theorem dL_law_742 : decode cL_law 742 = .ok (.iconst 2, 1) := by decide +kernel
theorem dL_law_743 : decode cL_law 743 = .ok (.iadd, 1) := by decide +kernel
theorem dL_law_744 : decode cL_law 744 = .ok (.iaload, 1) := by decide +kernel
theorem dL_law_745 : decode cL_law 745 = .ok (.aload_n 0, 1) := by decide +kernel
theorem dL_law_746 : decode cL_law 746 = .ok (.iload_n 3, 1) := by decide +kernel
theorem dL_law_747 : decode cL_law 747 = .ok (.iconst 3, 1) := by decide +kernel
theorem dL_law_748 : decode cL_law 748 = .ok (.iadd, 1) := by decide +kernel
theorem dL_law_749 : decode cL_law 749 = .ok (.iaload, 1) := by decide +kernel
theorem dL_law_750 : decode cL_law 750 = .ok (.invokevirtual 87, 3) := by decide +kernel
theorem dL_law_753 : decode cL_law 753 = .ok (.lcmp, 1) := by decide +kernel
theorem dL_law_754 : decode cL_law 754 = .ok (.ifCond .eq 64, 3) := by decide +kernel
theorem dL_law_757 : decode cL_law 757 = .ok (.iconst 0, 1) := by decide +kernel
theorem dL_law_758 : decode cL_law 758 = .ok (.ireturn, 1) := by decide +kernel
theorem dL_law_759 : decode cL_law 759 = .ok (.aload_n 1, 1) := by decide +kernel
theorem dL_law_760 : decode cL_law 760 = .ok (.aload_n 0, 1) := by decide +kernel
theorem dL_law_761 : decode cL_law 761 = .ok (.iload_n 3, 1) := by decide +kernel
theorem dL_law_762 : decode cL_law 762 = .ok (.iconst 1, 1) := by decide +kernel
theorem dL_law_763 : decode cL_law 763 = .ok (.iadd, 1) := by decide +kernel
theorem dL_law_764 : decode cL_law 764 = .ok (.iaload, 1) := by decide +kernel
theorem dL_law_765 : decode cL_law 765 = .ok (.invokevirtual 88, 3) := by decide +kernel
theorem dL_law_768 : decode cL_law 768 = .ok (.aload_n 2, 1) := by decide +kernel
theorem dL_law_769 : decode cL_law 769 = .ok (.aload_n 0, 1) := by decide +kernel
theorem dL_law_770 : decode cL_law 770 = .ok (.iload_n 3, 1) := by decide +kernel
theorem dL_law_771 : decode cL_law 771 = .ok (.iconst 1, 1) := by decide +kernel
theorem dL_law_772 : decode cL_law 772 = .ok (.iadd, 1) := by decide +kernel
theorem dL_law_773 : decode cL_law 773 = .ok (.iaload, 1) := by decide +kernel
theorem dL_law_774 : decode cL_law 774 = .ok (.invokevirtual 91, 3) := by decide +kernel
theorem dL_law_777 : decode cL_law 777 = .ok (.if_icmp .eq 41, 3) := by decide +kernel
theorem dL_law_780 : decode cL_law 780 = .ok (.iconst 0, 1) := by decide +kernel
theorem dL_law_781 : decode cL_law 781 = .ok (.ireturn, 1) := by decide +kernel
theorem dL_law_782 : decode cL_law 782 = .ok (.aload_n 1, 1) := by decide +kernel
theorem dL_law_783 : decode cL_law 783 = .ok (.invokevirtual 92, 3) := by decide +kernel
theorem dL_law_786 : decode cL_law 786 = .ok (.aload_n 2, 1) := by decide +kernel
theorem dL_law_787 : decode cL_law 787 = .ok (.invokevirtual 95, 3) := by decide +kernel
theorem dL_law_790 : decode cL_law 790 = .ok (.if_icmp .eq 28, 3) := by decide +kernel
theorem dL_law_793 : decode cL_law 793 = .ok (.iconst 0, 1) := by decide +kernel
theorem dL_law_794 : decode cL_law 794 = .ok (.ireturn, 1) := by decide +kernel
theorem dL_law_795 : decode cL_law 795 = .ok (.aload_n 1, 1) := by decide +kernel
theorem dL_law_796 : decode cL_law 796 = .ok (.aload_n 0, 1) := by decide +kernel
theorem dL_law_797 : decode cL_law 797 = .ok (.iload_n 3, 1) := by decide +kernel
theorem dL_law_798 : decode cL_law 798 = .ok (.iconst 1, 1) := by decide +kernel
theorem dL_law_799 : decode cL_law 799 = .ok (.iadd, 1) := by decide +kernel
theorem dL_law_800 : decode cL_law 800 = .ok (.iaload, 1) := by decide +kernel
theorem dL_law_801 : decode cL_law 801 = .ok (.invokevirtual 96, 3) := by decide +kernel
theorem dL_law_804 : decode cL_law 804 = .ok (.aload_n 2, 1) := by decide +kernel
theorem dL_law_805 : decode cL_law 805 = .ok (.aload_n 0, 1) := by decide +kernel
theorem dL_law_806 : decode cL_law 806 = .ok (.iload_n 3, 1) := by decide +kernel
theorem dL_law_807 : decode cL_law 807 = .ok (.iconst 1, 1) := by decide +kernel
theorem dL_law_808 : decode cL_law 808 = .ok (.iadd, 1) := by decide +kernel
theorem dL_law_809 : decode cL_law 809 = .ok (.iaload, 1) := by decide +kernel
theorem dL_law_810 : decode cL_law 810 = .ok (.invokevirtual 99, 3) := by decide +kernel
theorem dL_law_813 : decode cL_law 813 = .ok (.if_icmp .eq 5, 3) := by decide +kernel
theorem dL_law_816 : decode cL_law 816 = .ok (.iconst 0, 1) := by decide +kernel
theorem dL_law_817 : decode cL_law 817 = .ok (.ireturn, 1) := by decide +kernel
theorem dL_law_818 : decode cL_law 818 = .ok (.iinc 3 4, 3) := by decide +kernel
theorem dL_law_821 : decode cL_law 821 = .ok (.goto (-803), 3) := by decide +kernel
theorem dL_law_824 : decode cL_law 824 = .ok (.iconst 1, 1) := by decide +kernel
theorem dL_law_825 : decode cL_law 825 = .ok (.ireturn, 1) := by decide +kernel
end
section
def TW : List Cond := lw_tbl.filter goodWord
abbrev i32 (n : Int) : Int32 := Int32.ofInt n
abbrev i64 (n : Int) : Int64 := Int64.ofInt n
theorem tw_sel_X0_renew : Cond.selects RX0 yX0_renew yX0_renew ∈ TW := List.mem_filter.mpr ⟨List.mem_of_getElem? (i := 0) (by decide +kernel), by decide +kernel⟩
theorem tw_sel_X0_hasPoint : Cond.selects RX0 yX0_hasPoint yX0_hasPoint ∈ TW := List.mem_filter.mpr ⟨List.mem_of_getElem? (i := 1) (by decide +kernel), by decide +kernel⟩
theorem tw_sel_X0_put : Cond.selects RX0 yX0_put yX0_put ∈ TW := List.mem_filter.mpr ⟨List.mem_of_getElem? (i := 2) (by decide +kernel), by decide +kernel⟩
theorem tw_sel_X0_movedBy : Cond.selects RX0 yX0_movedBy yX0_movedBy ∈ TW := List.mem_filter.mpr ⟨List.mem_of_getElem? (i := 3) (by decide +kernel), by decide +kernel⟩
theorem tw_sel_X4_refusalOfLine : Cond.selects RX4 yX4_refusalOfLine yX4_refusalOfLine ∈ TW := List.mem_filter.mpr ⟨List.mem_of_getElem? (i := 4) (by decide +kernel), by decide +kernel⟩
theorem tw_sel_X0_linesOf : Cond.selects RX0 yX0_linesOf yX0_linesOf ∈ TW := List.mem_filter.mpr ⟨List.mem_of_getElem? (i := 5) (by decide +kernel), by decide +kernel⟩
theorem tw_sel_X4_takeLine : Cond.selects RX4 yX4_takeLine yX4_takeLine ∈ TW := List.mem_filter.mpr ⟨List.mem_of_getElem? (i := 6) (by decide +kernel), by decide +kernel⟩
theorem tw_sel_X0_layOut : Cond.selects RX0 yX0_layOut yX0_layOut ∈ TW := List.mem_filter.mpr ⟨List.mem_of_getElem? (i := 7) (by decide +kernel), by decide +kernel⟩
theorem tw_sel_X0_pointsOf : Cond.selects RX0 yX0_pointsOf yX0_pointsOf ∈ TW := List.mem_filter.mpr ⟨List.mem_of_getElem? (i := 8) (by decide +kernel), by decide +kernel⟩
theorem tw_sel_X0_cell : Cond.selects RX0 yX0_cell yX0_cell ∈ TW := List.mem_filter.mpr ⟨List.mem_of_getElem? (i := 9) (by decide +kernel), by decide +kernel⟩
theorem tw_sel_X3_bendAt : Cond.selects RX3 yX3_bendAt yX3_bendAt ∈ TW := List.mem_filter.mpr ⟨List.mem_of_getElem? (i := 10) (by decide +kernel), by decide +kernel⟩
theorem tw_sel_X3_jumpAt : Cond.selects RX3 yX3_jumpAt yX3_jumpAt ∈ TW := List.mem_filter.mpr ⟨List.mem_of_getElem? (i := 11) (by decide +kernel), by decide +kernel⟩
theorem tw_sel_X3_farthestJump : Cond.selects RX3 yX3_farthestJump yX3_farthestJump ∈ TW := List.mem_filter.mpr ⟨List.mem_of_getElem? (i := 12) (by decide +kernel), by decide +kernel⟩
theorem tw_sel_X3_firstJumpThatFar : Cond.selects RX3 yX3_firstJumpThatFar yX3_firstJumpThatFar ∈ TW := List.mem_filter.mpr ⟨List.mem_of_getElem? (i := 13) (by decide +kernel), by decide +kernel⟩
theorem tw_sel_X3_countJumpsBeyond : Cond.selects RX3 yX3_countJumpsBeyond yX3_countJumpsBeyond ∈ TW := List.mem_filter.mpr ⟨List.mem_of_getElem? (i := 14) (by decide +kernel), by decide +kernel⟩
theorem tw_sel_X4_seekLeast : Cond.selects RX4 yX4_seekLeast yX4_seekLeast ∈ TW := List.mem_filter.mpr ⟨List.mem_of_getElem? (i := 15) (by decide +kernel), by decide +kernel⟩
theorem tw_sel_X2_stay : Cond.selects RX2 yX2_stay yX2_stay ∈ TW := List.mem_filter.mpr ⟨List.mem_of_getElem? (i := 16) (by decide +kernel), by decide +kernel⟩
theorem tw_sel_X2_place : Cond.selects RX2 yX2_place yX2_place ∈ TW := List.mem_filter.mpr ⟨List.mem_of_getElem? (i := 17) (by decide +kernel), by decide +kernel⟩
theorem tw_sel_X2_seek : Cond.selects RX2 yX2_seek yX2_seek ∈ TW := List.mem_filter.mpr ⟨List.mem_of_getElem? (i := 18) (by decide +kernel), by decide +kernel⟩
theorem tw_sel_X2_keepFewest : Cond.selects RX2 yX2_keepFewest yX2_keepFewest ∈ TW := List.mem_filter.mpr ⟨List.mem_of_getElem? (i := 19) (by decide +kernel), by decide +kernel⟩
theorem tw_sel_X2_slot : Cond.selects RX2 yX2_slot yX2_slot ∈ TW := List.mem_filter.mpr ⟨List.mem_of_getElem? (i := 20) (by decide +kernel), by decide +kernel⟩
theorem tw_sel_X2_fewestFrom : Cond.selects RX2 yX2_fewestFrom yX2_fewestFrom ∈ TW := List.mem_filter.mpr ⟨List.mem_of_getElem? (i := 21) (by decide +kernel), by decide +kernel⟩
theorem tw_sel_X2_jumpUnmoved : Cond.selects RX2 yX2_jumpUnmoved yX2_jumpUnmoved ∈ TW := List.mem_filter.mpr ⟨List.mem_of_getElem? (i := 22) (by decide +kernel), by decide +kernel⟩
theorem tw_sel_X2_lastFit : Cond.selects RX2 yX2_lastFit yX2_lastFit ∈ TW := List.mem_filter.mpr ⟨List.mem_of_getElem? (i := 23) (by decide +kernel), by decide +kernel⟩
theorem tw_sel_X2_firstFit : Cond.selects RX2 yX2_firstFit yX2_firstFit ∈ TW := List.mem_filter.mpr ⟨List.mem_of_getElem? (i := 24) (by decide +kernel), by decide +kernel⟩
theorem tw_sel_X2_firstLeading : Cond.selects RX2 yX2_firstLeading yX2_firstLeading ∈ TW := List.mem_filter.mpr ⟨List.mem_of_getElem? (i := 25) (by decide +kernel), by decide +kernel⟩
theorem tw_sel_X2_moveOf : Cond.selects RX2 yX2_moveOf yX2_moveOf ∈ TW := List.mem_filter.mpr ⟨List.mem_of_getElem? (i := 26) (by decide +kernel), by decide +kernel⟩
theorem tw_sel_X4_addMoves : Cond.selects RX4 yX4_addMoves yX4_addMoves ∈ TW := List.mem_filter.mpr ⟨List.mem_of_getElem? (i := 27) (by decide +kernel), by decide +kernel⟩
theorem tw_sel_X4_roundChanges : Cond.selects RX4 yX4_roundChanges yX4_roundChanges ∈ TW := List.mem_filter.mpr ⟨List.mem_of_getElem? (i := 28) (by decide +kernel), by decide +kernel⟩
theorem tw_sel_X4_areaInSixths : Cond.selects RX4 yX4_areaInSixths yX4_areaInSixths ∈ TW := List.mem_filter.mpr ⟨List.mem_of_getElem? (i := 29) (by decide +kernel), by decide +kernel⟩
theorem tw_sel_X1_measure : Cond.selects RX1 yX1_measure yX1_measure ∈ TW := List.mem_filter.mpr ⟨List.mem_of_getElem? (i := 30) (by decide +kernel), by decide +kernel⟩
theorem tw_sel_X1_isThere : Cond.selects RX1 yX1_isThere yX1_isThere ∈ TW := List.mem_filter.mpr ⟨List.mem_of_getElem? (i := 31) (by decide +kernel), by decide +kernel⟩
theorem tw_sel_X1_countBreaks : Cond.selects RX1 yX1_countBreaks yX1_countBreaks ∈ TW := List.mem_filter.mpr ⟨List.mem_of_getElem? (i := 32) (by decide +kernel), by decide +kernel⟩
theorem tw_sel_X1_isBreak : Cond.selects RX1 yX1_isBreak yX1_isBreak ∈ TW := List.mem_filter.mpr ⟨List.mem_of_getElem? (i := 33) (by decide +kernel), by decide +kernel⟩
theorem tw_sel_X0_broadest : Cond.selects RX0 yX0_broadest yX0_broadest ∈ TW := List.mem_filter.mpr ⟨List.mem_of_getElem? (i := 34) (by decide +kernel), by decide +kernel⟩
theorem tw_sel_X0_countHeld : Cond.selects RX0 yX0_countHeld yX0_countHeld ∈ TW := List.mem_filter.mpr ⟨List.mem_of_getElem? (i := 35) (by decide +kernel), by decide +kernel⟩
theorem tw_sel_X4_countUnfair : Cond.selects RX4 yX4_countUnfair yX4_countUnfair ∈ TW := List.mem_filter.mpr ⟨List.mem_of_getElem? (i := 36) (by decide +kernel), by decide +kernel⟩
theorem tw_sel_X0_farFromPuts : Cond.selects RX0 yX0_farFromPuts yX0_farFromPuts ∈ TW := List.mem_filter.mpr ⟨List.mem_of_getElem? (i := 37) (by decide +kernel), by decide +kernel⟩
theorem tw_sel_X5_isPoint : Cond.selects RX5 yX5_isPoint yX5_isPoint ∈ TW := List.mem_filter.mpr ⟨List.mem_of_getElem? (i := 38) (by decide +kernel), by decide +kernel⟩
theorem tw_sel_X5_barred : Cond.selects RX5 yX5_barred yX5_barred ∈ TW := List.mem_filter.mpr ⟨List.mem_of_getElem? (i := 39) (by decide +kernel), by decide +kernel⟩
theorem tw_sel_X5_isLine : Cond.selects RX5 yX5_isLine yX5_isLine ∈ TW := List.mem_filter.mpr ⟨List.mem_of_getElem? (i := 40) (by decide +kernel), by decide +kernel⟩
theorem tw_sel_X5_linesOf : Cond.selects RX5 yX5_linesOf yX5_linesOf ∈ TW := List.mem_filter.mpr ⟨List.mem_of_getElem? (i := 41) (by decide +kernel), by decide +kernel⟩
theorem tw_sel_X5_lays : Cond.selects RX5 yX5_lays yX5_lays ∈ TW := List.mem_filter.mpr ⟨List.mem_of_getElem? (i := 42) (by decide +kernel), by decide +kernel⟩
theorem tw_sel_X5_bendAt : Cond.selects RX5 yX5_bendAt yX5_bendAt ∈ TW := List.mem_filter.mpr ⟨List.mem_of_getElem? (i := 43) (by decide +kernel), by decide +kernel⟩
theorem tw_sel_X5_jumpAt : Cond.selects RX5 yX5_jumpAt yX5_jumpAt ∈ TW := List.mem_filter.mpr ⟨List.mem_of_getElem? (i := 44) (by decide +kernel), by decide +kernel⟩
theorem tw_sel_X5_roughNow : Cond.selects RX5 yX5_roughNow yX5_roughNow ∈ TW := List.mem_filter.mpr ⟨List.mem_of_getElem? (i := 45) (by decide +kernel), by decide +kernel⟩
theorem tw_sel_X5_findLeast : Cond.selects RX5 yX5_findLeast yX5_findLeast ∈ TW := List.mem_filter.mpr ⟨List.mem_of_getElem? (i := 46) (by decide +kernel), by decide +kernel⟩
theorem tw_sel_X5_findNeeds : Cond.selects RX5 yX5_findNeeds yX5_findNeeds ∈ TW := List.mem_filter.mpr ⟨List.mem_of_getElem? (i := 47) (by decide +kernel), by decide +kernel⟩
theorem tw_sel_X5_may : Cond.selects RX5 yX5_may yX5_may ∈ TW := List.mem_filter.mpr ⟨List.mem_of_getElem? (i := 48) (by decide +kernel), by decide +kernel⟩
theorem tw_sel_X5_needFrom : Cond.selects RX5 yX5_needFrom yX5_needFrom ∈ TW := List.mem_filter.mpr ⟨List.mem_of_getElem? (i := 49) (by decide +kernel), by decide +kernel⟩
theorem tw_sel_X5_isFair : Cond.selects RX5 yX5_isFair yX5_isFair ∈ TW := List.mem_filter.mpr ⟨List.mem_of_getElem? (i := 50) (by decide +kernel), by decide +kernel⟩
theorem tw_sel_X5_begins : Cond.selects RX5 yX5_begins yX5_begins ∈ TW := List.mem_filter.mpr ⟨List.mem_of_getElem? (i := 51) (by decide +kernel), by decide +kernel⟩
theorem tw_sel_X5_nextMove : Cond.selects RX5 yX5_nextMove yX5_nextMove ∈ TW := List.mem_filter.mpr ⟨List.mem_of_getElem? (i := 52) (by decide +kernel), by decide +kernel⟩
theorem tw_sel_X5_fairs : Cond.selects RX5 yX5_fairs yX5_fairs ∈ TW := List.mem_filter.mpr ⟨List.mem_of_getElem? (i := 53) (by decide +kernel), by decide +kernel⟩
theorem tw_sel_X5_round : Cond.selects RX5 yX5_round yX5_round ∈ TW := List.mem_filter.mpr ⟨List.mem_of_getElem? (i := 54) (by decide +kernel), by decide +kernel⟩
theorem tw_sel_X5_sumOf : Cond.selects RX5 yX5_sumOf yX5_sumOf ∈ TW := List.mem_filter.mpr ⟨List.mem_of_getElem? (i := 55) (by decide +kernel), by decide +kernel⟩
theorem tw_sel_X5_sixths : Cond.selects RX5 yX5_sixths yX5_sixths ∈ TW := List.mem_filter.mpr ⟨List.mem_of_getElem? (i := 56) (by decide +kernel), by decide +kernel⟩
theorem tw_sel_X5_findHeight : Cond.selects RX5 yX5_findHeight yX5_findHeight ∈ TW := List.mem_filter.mpr ⟨List.mem_of_getElem? (i := 57) (by decide +kernel), by decide +kernel⟩
theorem tw_sel_X5_breaksAt : Cond.selects RX5 yX5_breaksAt yX5_breaksAt ∈ TW := List.mem_filter.mpr ⟨List.mem_of_getElem? (i := 58) (by decide +kernel), by decide +kernel⟩
theorem tw_sel_X5_isBreak : Cond.selects RX5 yX5_isBreak yX5_isBreak ∈ TW := List.mem_filter.mpr ⟨List.mem_of_getElem? (i := 59) (by decide +kernel), by decide +kernel⟩
theorem tw_sel_X5_manyHeld : Cond.selects RX5 yX5_manyHeld yX5_manyHeld ∈ TW := List.mem_filter.mpr ⟨List.mem_of_getElem? (i := 60) (by decide +kernel), by decide +kernel⟩
theorem tw_sel_X5_manyRough : Cond.selects RX5 yX5_manyRough yX5_manyRough ∈ TW := List.mem_filter.mpr ⟨List.mem_of_getElem? (i := 61) (by decide +kernel), by decide +kernel⟩
theorem tw_sel_X5_farOff : Cond.selects RX5 yX5_farOff yX5_farOff ∈ TW := List.mem_filter.mpr ⟨List.mem_of_getElem? (i := 62) (by decide +kernel), by decide +kernel⟩
theorem tw_ini_L : Cond.initialized RL ∈ TW := List.mem_filter.mpr ⟨List.mem_of_getElem? (i := 63) (by decide +kernel), by decide +kernel⟩
theorem tw_ini_X4 : Cond.initialized RX4 ∈ TW := List.mem_filter.mpr ⟨List.mem_of_getElem? (i := 64) (by decide +kernel), by decide +kernel⟩
theorem tw_ini_X0 : Cond.initialized RX0 ∈ TW := List.mem_filter.mpr ⟨List.mem_of_getElem? (i := 65) (by decide +kernel), by decide +kernel⟩
theorem tw_ini_X3 : Cond.initialized RX3 ∈ TW := List.mem_filter.mpr ⟨List.mem_of_getElem? (i := 66) (by decide +kernel), by decide +kernel⟩
theorem tw_ini_X2 : Cond.initialized RX2 ∈ TW := List.mem_filter.mpr ⟨List.mem_of_getElem? (i := 67) (by decide +kernel), by decide +kernel⟩
theorem tw_ini_X1 : Cond.initialized RX1 ∈ TW := List.mem_filter.mpr ⟨List.mem_of_getElem? (i := 68) (by decide +kernel), by decide +kernel⟩
theorem tw_ini_X5 : Cond.initialized RX5 ∈ TW := List.mem_filter.mpr ⟨List.mem_of_getElem? (i := 69) (by decide +kernel), by decide +kernel⟩
theorem tw_ini_java_lang_Math : Cond.initialized "java/lang/Math" ∈ TW := List.mem_filter.mpr ⟨List.mem_of_getElem? (i := 70) (by decide +kernel), by decide +kernel⟩
theorem tw_ini_java_lang_System : Cond.initialized "java/lang/System" ∈ TW := List.mem_filter.mpr ⟨List.mem_of_getElem? (i := 71) (by decide +kernel), by decide +kernel⟩
theorem tw_kl_L_7 : Cond.classLink RL 7 RX4 ∈ TW := List.mem_filter.mpr ⟨List.mem_of_getElem? (i := 72) (by decide +kernel), by decide +kernel⟩
theorem tw_mk_X4 : Cond.instantiable RX4 7 ∈ TW := List.mem_filter.mpr ⟨List.mem_of_getElem? (i := 73) (by decide +kernel), by decide +kernel⟩
theorem tw_ml_L_9 : Cond.methodLink RL 9 yX4_init ∈ TW := List.mem_filter.mpr ⟨List.mem_of_getElem? (i := 74) (by decide +kernel), by decide +kernel⟩
theorem tw_ins_X4_init : Cond.instanceMethod yX4_init ∈ TW := List.mem_filter.mpr ⟨List.mem_of_getElem? (i := 75) (by decide +kernel), by decide +kernel⟩
theorem tw_cod_X4_init : Cond.code yX4_init cX4_init 1 none ∈ TW := List.mem_filter.mpr ⟨List.mem_of_getElem? (i := 76) (by decide +kernel), by decide +kernel⟩
theorem tw_ml_X4_5 : Cond.methodLink RX4 5 objectInit ∈ TW := List.mem_filter.mpr ⟨List.mem_of_getElem? (i := 77) (by decide +kernel), by decide +kernel⟩
theorem tw_ins_Object__init_ : Cond.instanceMethod objectInit ∈ TW := List.mem_filter.mpr ⟨List.mem_of_getElem? (i := 78) (by decide +kernel), by decide +kernel⟩
theorem tw_cod_Object__init_ : Cond.code objectInit ⟨#[0xb1]⟩ 1 none ∈ TW := List.mem_filter.mpr ⟨List.mem_of_getElem? (i := 79) (by decide +kernel), by decide +kernel⟩
theorem tw_kl_X4_11 : Cond.classLink RX4 11 RX0 ∈ TW := List.mem_filter.mpr ⟨List.mem_of_getElem? (i := 80) (by decide +kernel), by decide +kernel⟩
theorem tw_mk_X0 : Cond.instantiable RX0 5 ∈ TW := List.mem_filter.mpr ⟨List.mem_of_getElem? (i := 81) (by decide +kernel), by decide +kernel⟩
theorem tw_ins_X0_init : Cond.instanceMethod yX0_init ∈ TW := List.mem_filter.mpr ⟨List.mem_of_getElem? (i := 83) (by decide +kernel), by decide +kernel⟩
theorem tw_cod_X0_init : Cond.code yX0_init cX0_init 1 none ∈ TW := List.mem_filter.mpr ⟨List.mem_of_getElem? (i := 84) (by decide +kernel), by decide +kernel⟩
theorem tw_ml_X0_3 : Cond.methodLink RX0 3 objectInit ∈ TW := List.mem_filter.mpr ⟨List.mem_of_getElem? (i := 85) (by decide +kernel), by decide +kernel⟩
theorem tw_fl_X0_9 : Cond.fieldLink RX0 9 "HullOffsets$Grid" "offsets" "[I" ∈ TW := List.mem_filter.mpr ⟨List.mem_of_getElem? (i := 86) (by decide +kernel), by decide +kernel⟩
theorem tw_fl_X0_15 : Cond.fieldLink RX0 15 "HullOffsets$Grid" "puts" "[I" ∈ TW := List.mem_filter.mpr ⟨List.mem_of_getElem? (i := 89) (by decide +kernel), by decide +kernel⟩
theorem tw_fl_X0_18 : Cond.fieldLink RX0 18 "HullOffsets$Grid" "held" "[Z" ∈ TW := List.mem_filter.mpr ⟨List.mem_of_getElem? (i := 91) (by decide +kernel), by decide +kernel⟩
theorem tw_fl_X0_22 : Cond.fieldLink RX0 22 "HullOffsets$Grid" "stations" "I" ∈ TW := List.mem_filter.mpr ⟨List.mem_of_getElem? (i := 93) (by decide +kernel), by decide +kernel⟩
theorem tw_fl_X0_26 : Cond.fieldLink RX0 26 "HullOffsets$Grid" "lines" "I" ∈ TW := List.mem_filter.mpr ⟨List.mem_of_getElem? (i := 96) (by decide +kernel), by decide +kernel⟩
theorem tw_arr_int : Cond.arrayClass .int ∈ TW := List.mem_filter.mpr ⟨List.mem_of_getElem? (i := 110) (by decide +kernel), by decide +kernel⟩
theorem tw_arr_boolean : Cond.arrayClass .boolean ∈ TW := List.mem_filter.mpr ⟨List.mem_of_getElem? (i := 111) (by decide +kernel), by decide +kernel⟩
theorem tw_kl_X4_18 : Cond.classLink RX4 18 RX3 ∈ TW := List.mem_filter.mpr ⟨List.mem_of_getElem? (i := 112) (by decide +kernel), by decide +kernel⟩
theorem tw_mk_X3 : Cond.instantiable RX3 2 ∈ TW := List.mem_filter.mpr ⟨List.mem_of_getElem? (i := 113) (by decide +kernel), by decide +kernel⟩
theorem tw_ins_X3_init : Cond.instanceMethod yX3_init ∈ TW := List.mem_filter.mpr ⟨List.mem_of_getElem? (i := 115) (by decide +kernel), by decide +kernel⟩
theorem tw_cod_X3_init : Cond.code yX3_init cX3_init 1 none ∈ TW := List.mem_filter.mpr ⟨List.mem_of_getElem? (i := 116) (by decide +kernel), by decide +kernel⟩
theorem tw_ml_X3_3 : Cond.methodLink RX3 3 objectInit ∈ TW := List.mem_filter.mpr ⟨List.mem_of_getElem? (i := 117) (by decide +kernel), by decide +kernel⟩
theorem tw_fl_X3_9 : Cond.fieldLink RX3 9 "HullOffsets$Line" "offsets" "[I" ∈ TW := List.mem_filter.mpr ⟨List.mem_of_getElem? (i := 118) (by decide +kernel), by decide +kernel⟩
theorem tw_fl_X3_19 : Cond.fieldLink RX3 19 "HullOffsets$Line" "points" "I" ∈ TW := List.mem_filter.mpr ⟨List.mem_of_getElem? (i := 121) (by decide +kernel), by decide +kernel⟩
theorem tw_kl_X4_25 : Cond.classLink RX4 25 RX2 ∈ TW := List.mem_filter.mpr ⟨List.mem_of_getElem? (i := 129) (by decide +kernel), by decide +kernel⟩
theorem tw_mk_X2 : Cond.instantiable RX2 7 ∈ TW := List.mem_filter.mpr ⟨List.mem_of_getElem? (i := 130) (by decide +kernel), by decide +kernel⟩
theorem tw_ins_X2_init : Cond.instanceMethod yX2_init ∈ TW := List.mem_filter.mpr ⟨List.mem_of_getElem? (i := 132) (by decide +kernel), by decide +kernel⟩
theorem tw_cod_X2_init : Cond.code yX2_init cX2_init 1 none ∈ TW := List.mem_filter.mpr ⟨List.mem_of_getElem? (i := 133) (by decide +kernel), by decide +kernel⟩
theorem tw_ml_X2_5 : Cond.methodLink RX2 5 objectInit ∈ TW := List.mem_filter.mpr ⟨List.mem_of_getElem? (i := 134) (by decide +kernel), by decide +kernel⟩
theorem tw_fl_X2_11 : Cond.fieldLink RX2 11 "HullOffsets$LeastMoves" "from" "[I" ∈ TW := List.mem_filter.mpr ⟨List.mem_of_getElem? (i := 135) (by decide +kernel), by decide +kernel⟩
theorem tw_fl_X2_15 : Cond.fieldLink RX2 15 "HullOffsets$LeastMoves" "low" "[I" ∈ TW := List.mem_filter.mpr ⟨List.mem_of_getElem? (i := 136) (by decide +kernel), by decide +kernel⟩
theorem tw_fl_X2_18 : Cond.fieldLink RX2 18 "HullOffsets$LeastMoves" "top" "[I" ∈ TW := List.mem_filter.mpr ⟨List.mem_of_getElem? (i := 137) (by decide +kernel), by decide +kernel⟩
theorem tw_fl_X2_21 : Cond.fieldLink RX2 21 "HullOffsets$LeastMoves" "moves" "[I" ∈ TW := List.mem_filter.mpr ⟨List.mem_of_getElem? (i := 138) (by decide +kernel), by decide +kernel⟩
theorem tw_fl_X2_24 : Cond.fieldLink RX2 24 "HullOffsets$LeastMoves" "fewest" "[I" ∈ TW := List.mem_filter.mpr ⟨List.mem_of_getElem? (i := 139) (by decide +kernel), by decide +kernel⟩
theorem tw_fl_X2_36 : Cond.fieldLink RX2 36 "HullOffsets$LeastMoves" "points" "I" ∈ TW := List.mem_filter.mpr ⟨List.mem_of_getElem? (i := 140) (by decide +kernel), by decide +kernel⟩
theorem tw_fl_X2_40 : Cond.fieldLink RX2 40 "HullOffsets$LeastMoves" "bound" "I" ∈ TW := List.mem_filter.mpr ⟨List.mem_of_getElem? (i := 141) (by decide +kernel), by decide +kernel⟩
theorem tw_kl_X4_32 : Cond.classLink RX4 32 RX1 ∈ TW := List.mem_filter.mpr ⟨List.mem_of_getElem? (i := 157) (by decide +kernel), by decide +kernel⟩
theorem tw_mk_X1 : Cond.instantiable RX1 2 ∈ TW := List.mem_filter.mpr ⟨List.mem_of_getElem? (i := 158) (by decide +kernel), by decide +kernel⟩
theorem tw_ins_X1_init : Cond.instanceMethod yX1_init ∈ TW := List.mem_filter.mpr ⟨List.mem_of_getElem? (i := 160) (by decide +kernel), by decide +kernel⟩
theorem tw_cod_X1_init : Cond.code yX1_init cX1_init 1 none ∈ TW := List.mem_filter.mpr ⟨List.mem_of_getElem? (i := 161) (by decide +kernel), by decide +kernel⟩
theorem tw_ml_X1_3 : Cond.methodLink RX1 3 objectInit ∈ TW := List.mem_filter.mpr ⟨List.mem_of_getElem? (i := 162) (by decide +kernel), by decide +kernel⟩
theorem tw_fl_X1_9 : Cond.fieldLink RX1 9 "HullOffsets$Heights" "upper" "[J" ∈ TW := List.mem_filter.mpr ⟨List.mem_of_getElem? (i := 163) (by decide +kernel), by decide +kernel⟩
theorem tw_fl_X1_15 : Cond.fieldLink RX1 15 "HullOffsets$Heights" "lower" "[J" ∈ TW := List.mem_filter.mpr ⟨List.mem_of_getElem? (i := 165) (by decide +kernel), by decide +kernel⟩
theorem tw_arr_long : Cond.arrayClass .long ∈ TW := List.mem_filter.mpr ⟨List.mem_of_getElem? (i := 172) (by decide +kernel), by decide +kernel⟩
theorem tw_fl_X4_39 : Cond.fieldLink RX4 39 "HullOffsets" "SETTING_FIRST" "[I" ∈ TW := List.mem_filter.mpr ⟨List.mem_of_getElem? (i := 173) (by decide +kernel), by decide +kernel⟩
theorem tw_ls_SETTING_FIRST : Cond.laysStatic "HullOffsets" "SETTING_FIRST" "[I" ∈ lw_tbl := List.mem_of_getElem? (i := 174) (by decide +kernel)
theorem tw_ml_X4_43 : Cond.methodLink RX4 43 ⟨"[I", "clone", "()Ljava/lang/Object;"⟩ ∈ TW := List.mem_filter.mpr ⟨List.mem_of_getElem? (i := 175) (by decide +kernel), by decide +kernel⟩
theorem tw_sam_clone : Cond.sameMethod "[I" "java/lang/Object" "clone" "()Ljava/lang/Object;" ∈ TW := List.mem_filter.mpr ⟨List.mem_of_getElem? (i := 176) (by decide +kernel), by decide +kernel⟩
theorem tw_nat_Object_clone : Cond.native ⟨"java/lang/Object", "clone", "()Ljava/lang/Object;"⟩ ∈ TW := List.mem_filter.mpr ⟨List.mem_of_getElem? (i := 177) (by decide +kernel), by decide +kernel⟩
theorem tw_ins_Object_clone : Cond.instanceMethod ⟨"java/lang/Object", "clone", "()Ljava/lang/Object;"⟩ ∈ TW := List.mem_filter.mpr ⟨List.mem_of_getElem? (i := 178) (by decide +kernel), by decide +kernel⟩
theorem tw_sel__I_clone : Cond.selects "[I" ⟨"[I", "clone", "()Ljava/lang/Object;"⟩ ⟨"java/lang/Object", "clone", "()Ljava/lang/Object;"⟩ ∈ TW := List.mem_filter.mpr ⟨List.mem_of_getElem? (i := 179) (by decide +kernel), by decide +kernel⟩
theorem tw_kl_X4_44 : Cond.classLink RX4 44 "[I" ∈ TW := List.mem_filter.mpr ⟨List.mem_of_getElem? (i := 181) (by decide +kernel), by decide +kernel⟩
theorem tw_ins_X0_renew : Cond.instanceMethod yX0_renew ∈ TW := List.mem_filter.mpr ⟨List.mem_of_getElem? (i := 184) (by decide +kernel), by decide +kernel⟩
theorem tw_cod_X0_renew : Cond.code yX0_renew cX0_renew 4 none ∈ TW := List.mem_filter.mpr ⟨List.mem_of_getElem? (i := 185) (by decide +kernel), by decide +kernel⟩
theorem tw_fl_X4_14 : Cond.fieldLink RX4 14 "HullOffsets" "grid" "LHullOffsets$Grid;" ∈ TW := List.mem_filter.mpr ⟨List.mem_of_getElem? (i := 186) (by decide +kernel), by decide +kernel⟩
theorem tw_fl_X4_21 : Cond.fieldLink RX4 21 "HullOffsets" "taken" "LHullOffsets$Line;" ∈ TW := List.mem_filter.mpr ⟨List.mem_of_getElem? (i := 187) (by decide +kernel), by decide +kernel⟩
theorem tw_fl_X4_28 : Cond.fieldLink RX4 28 "HullOffsets" "search" "LHullOffsets$LeastMoves;" ∈ TW := List.mem_filter.mpr ⟨List.mem_of_getElem? (i := 188) (by decide +kernel), by decide +kernel⟩
theorem tw_fl_X4_35 : Cond.fieldLink RX4 35 "HullOffsets" "heights" "LHullOffsets$Heights;" ∈ TW := List.mem_filter.mpr ⟨List.mem_of_getElem? (i := 189) (by decide +kernel), by decide +kernel⟩
theorem tw_fl_X4_48 : Cond.fieldLink RX4 48 "HullOffsets" "settings" "[I" ∈ TW := List.mem_filter.mpr ⟨List.mem_of_getElem? (i := 190) (by decide +kernel), by decide +kernel⟩
theorem tw_fl_X4_51 : Cond.fieldLink RX4 51 "HullOffsets" "asBegun" "[I" ∈ TW := List.mem_filter.mpr ⟨List.mem_of_getElem? (i := 191) (by decide +kernel), by decide +kernel⟩
theorem tw_fl_X4_54 : Cond.fieldLink RX4 54 "HullOffsets" "values" "[I" ∈ TW := List.mem_filter.mpr ⟨List.mem_of_getElem? (i := 192) (by decide +kernel), by decide +kernel⟩
theorem tw_ml_L_13 : Cond.methodLink RL 13 yX4_hull ∈ TW := List.mem_filter.mpr ⟨List.mem_of_getElem? (i := 208) (by decide +kernel), by decide +kernel⟩
theorem tw_ins_X4_hull : Cond.instanceMethod yX4_hull ∈ TW := List.mem_filter.mpr ⟨List.mem_of_getElem? (i := 209) (by decide +kernel), by decide +kernel⟩
theorem tw_sel_X4_hull : Cond.selects RX4 yX4_hull yX4_hull ∈ TW := List.mem_filter.mpr ⟨List.mem_of_getElem? (i := 210) (by decide +kernel), by decide +kernel⟩
theorem tw_cod_X4_hull : Cond.code yX4_hull cX4_hull 3 (some .int) ∈ TW := List.mem_filter.mpr ⟨List.mem_of_getElem? (i := 211) (by decide +kernel), by decide +kernel⟩
theorem tw_ml_X4_61 : Cond.methodLink RX4 61 yX4_isNot ∈ TW := List.mem_filter.mpr ⟨List.mem_of_getElem? (i := 212) (by decide +kernel), by decide +kernel⟩
theorem tw_sta_X4_isNot : Cond.static yX4_isNot ∈ TW := List.mem_filter.mpr ⟨List.mem_of_getElem? (i := 213) (by decide +kernel), by decide +kernel⟩
theorem tw_cod_X4_isNot : Cond.code yX4_isNot cX4_isNot 3 (some .boolean) ∈ TW := List.mem_filter.mpr ⟨List.mem_of_getElem? (i := 214) (by decide +kernel), by decide +kernel⟩
theorem tw_ml_L_18 : Cond.methodLink RL 18 yX4_offset ∈ TW := List.mem_filter.mpr ⟨List.mem_of_getElem? (i := 215) (by decide +kernel), by decide +kernel⟩
theorem tw_ins_X4_offset : Cond.instanceMethod yX4_offset ∈ TW := List.mem_filter.mpr ⟨List.mem_of_getElem? (i := 216) (by decide +kernel), by decide +kernel⟩
theorem tw_sel_X4_offset : Cond.selects RX4 yX4_offset yX4_offset ∈ TW := List.mem_filter.mpr ⟨List.mem_of_getElem? (i := 217) (by decide +kernel), by decide +kernel⟩
theorem tw_cod_X4_offset : Cond.code yX4_offset cX4_offset 4 (some .int) ∈ TW := List.mem_filter.mpr ⟨List.mem_of_getElem? (i := 218) (by decide +kernel), by decide +kernel⟩
theorem tw_ins_X0_hasPoint : Cond.instanceMethod yX0_hasPoint ∈ TW := List.mem_filter.mpr ⟨List.mem_of_getElem? (i := 221) (by decide +kernel), by decide +kernel⟩
theorem tw_cod_X0_hasPoint : Cond.code yX0_hasPoint cX0_hasPoint 3 (some .boolean) ∈ TW := List.mem_filter.mpr ⟨List.mem_of_getElem? (i := 222) (by decide +kernel), by decide +kernel⟩
theorem tw_ml_X4_69 : Cond.methodLink RX4 69 yX4_cellOf ∈ TW := List.mem_filter.mpr ⟨List.mem_of_getElem? (i := 223) (by decide +kernel), by decide +kernel⟩
theorem tw_sta_X4_cellOf : Cond.static yX4_cellOf ∈ TW := List.mem_filter.mpr ⟨List.mem_of_getElem? (i := 224) (by decide +kernel), by decide +kernel⟩
theorem tw_cod_X4_cellOf : Cond.code yX4_cellOf cX4_cellOf 2 (some .int) ∈ TW := List.mem_filter.mpr ⟨List.mem_of_getElem? (i := 225) (by decide +kernel), by decide +kernel⟩
theorem tw_ins_X0_put : Cond.instanceMethod yX0_put ∈ TW := List.mem_filter.mpr ⟨List.mem_of_getElem? (i := 228) (by decide +kernel), by decide +kernel⟩
theorem tw_cod_X0_put : Cond.code yX0_put cX0_put 4 (some .int) ∈ TW := List.mem_filter.mpr ⟨List.mem_of_getElem? (i := 229) (by decide +kernel), by decide +kernel⟩
theorem tw_ml_L_23 : Cond.methodLink RL 23 yX4_hold ∈ TW := List.mem_filter.mpr ⟨List.mem_of_getElem? (i := 230) (by decide +kernel), by decide +kernel⟩
theorem tw_ins_X4_hold : Cond.instanceMethod yX4_hold ∈ TW := List.mem_filter.mpr ⟨List.mem_of_getElem? (i := 231) (by decide +kernel), by decide +kernel⟩
theorem tw_sel_X4_hold : Cond.selects RX4 yX4_hold yX4_hold ∈ TW := List.mem_filter.mpr ⟨List.mem_of_getElem? (i := 232) (by decide +kernel), by decide +kernel⟩
theorem tw_cod_X4_hold : Cond.code yX4_hold cX4_hold 5 (some .int) ∈ TW := List.mem_filter.mpr ⟨List.mem_of_getElem? (i := 233) (by decide +kernel), by decide +kernel⟩
theorem tw_ml_L_28 : Cond.methodLink RL 28 yX4_setting ∈ TW := List.mem_filter.mpr ⟨List.mem_of_getElem? (i := 234) (by decide +kernel), by decide +kernel⟩
theorem tw_ins_X4_setting : Cond.instanceMethod yX4_setting ∈ TW := List.mem_filter.mpr ⟨List.mem_of_getElem? (i := 235) (by decide +kernel), by decide +kernel⟩
theorem tw_sel_X4_setting : Cond.selects RX4 yX4_setting yX4_setting ∈ TW := List.mem_filter.mpr ⟨List.mem_of_getElem? (i := 236) (by decide +kernel), by decide +kernel⟩
theorem tw_cod_X4_setting : Cond.code yX4_setting cX4_setting 4 (some .int) ∈ TW := List.mem_filter.mpr ⟨List.mem_of_getElem? (i := 237) (by decide +kernel), by decide +kernel⟩
theorem tw_fl_X4_80 : Cond.fieldLink RX4 80 "HullOffsets" "SETTING_LOW" "[I" ∈ TW := List.mem_filter.mpr ⟨List.mem_of_getElem? (i := 238) (by decide +kernel), by decide +kernel⟩
theorem tw_ls_SETTING_LOW : Cond.laysStatic "HullOffsets" "SETTING_LOW" "[I" ∈ lw_tbl := List.mem_of_getElem? (i := 239) (by decide +kernel)
theorem tw_fl_X4_83 : Cond.fieldLink RX4 83 "HullOffsets" "SETTING_TOP" "[I" ∈ TW := List.mem_filter.mpr ⟨List.mem_of_getElem? (i := 240) (by decide +kernel), by decide +kernel⟩
theorem tw_ls_SETTING_TOP : Cond.laysStatic "HullOffsets" "SETTING_TOP" "[I" ∈ lw_tbl := List.mem_of_getElem? (i := 241) (by decide +kernel)
theorem tw_ml_L_32 : Cond.methodLink RL 32 yX4_ofPoint ∈ TW := List.mem_filter.mpr ⟨List.mem_of_getElem? (i := 242) (by decide +kernel), by decide +kernel⟩
theorem tw_ins_X4_ofPoint : Cond.instanceMethod yX4_ofPoint ∈ TW := List.mem_filter.mpr ⟨List.mem_of_getElem? (i := 243) (by decide +kernel), by decide +kernel⟩
theorem tw_sel_X4_ofPoint : Cond.selects RX4 yX4_ofPoint yX4_ofPoint ∈ TW := List.mem_filter.mpr ⟨List.mem_of_getElem? (i := 244) (by decide +kernel), by decide +kernel⟩
theorem tw_cod_X4_ofPoint : Cond.code yX4_ofPoint cX4_ofPoint 5 (some .int) ∈ TW := List.mem_filter.mpr ⟨List.mem_of_getElem? (i := 245) (by decide +kernel), by decide +kernel⟩
theorem tw_ins_X0_movedBy : Cond.instanceMethod yX0_movedBy ∈ TW := List.mem_filter.mpr ⟨List.mem_of_getElem? (i := 248) (by decide +kernel), by decide +kernel⟩
theorem tw_cod_X0_movedBy : Cond.code yX0_movedBy cX0_movedBy 2 (some .int) ∈ TW := List.mem_filter.mpr ⟨List.mem_of_getElem? (i := 249) (by decide +kernel), by decide +kernel⟩
theorem tw_ml_L_36 : Cond.methodLink RL 36 yX4_bend ∈ TW := List.mem_filter.mpr ⟨List.mem_of_getElem? (i := 250) (by decide +kernel), by decide +kernel⟩
theorem tw_ins_X4_bend : Cond.instanceMethod yX4_bend ∈ TW := List.mem_filter.mpr ⟨List.mem_of_getElem? (i := 251) (by decide +kernel), by decide +kernel⟩
theorem tw_sel_X4_bend : Cond.selects RX4 yX4_bend yX4_bend ∈ TW := List.mem_filter.mpr ⟨List.mem_of_getElem? (i := 252) (by decide +kernel), by decide +kernel⟩
theorem tw_cod_X4_bend : Cond.code yX4_bend cX4_bend 5 (some .int) ∈ TW := List.mem_filter.mpr ⟨List.mem_of_getElem? (i := 253) (by decide +kernel), by decide +kernel⟩
theorem tw_ml_X4_93 : Cond.methodLink RX4 93 yX4_refusalOfLine ∈ TW := List.mem_filter.mpr ⟨List.mem_of_getElem? (i := 254) (by decide +kernel), by decide +kernel⟩
theorem tw_ins_X4_refusalOfLine : Cond.instanceMethod yX4_refusalOfLine ∈ TW := List.mem_filter.mpr ⟨List.mem_of_getElem? (i := 256) (by decide +kernel), by decide +kernel⟩
theorem tw_cod_X4_refusalOfLine : Cond.code yX4_refusalOfLine cX4_refusalOfLine 3 (some .int) ∈ TW := List.mem_filter.mpr ⟨List.mem_of_getElem? (i := 257) (by decide +kernel), by decide +kernel⟩
theorem tw_ins_X0_linesOf : Cond.instanceMethod yX0_linesOf ∈ TW := List.mem_filter.mpr ⟨List.mem_of_getElem? (i := 260) (by decide +kernel), by decide +kernel⟩
theorem tw_cod_X0_linesOf : Cond.code yX0_linesOf cX0_linesOf 2 (some .int) ∈ TW := List.mem_filter.mpr ⟨List.mem_of_getElem? (i := 261) (by decide +kernel), by decide +kernel⟩
theorem tw_ml_X4_96 : Cond.methodLink RX4 96 yX4_takeLine ∈ TW := List.mem_filter.mpr ⟨List.mem_of_getElem? (i := 262) (by decide +kernel), by decide +kernel⟩
theorem tw_ins_X4_takeLine : Cond.instanceMethod yX4_takeLine ∈ TW := List.mem_filter.mpr ⟨List.mem_of_getElem? (i := 264) (by decide +kernel), by decide +kernel⟩
theorem tw_cod_X4_takeLine : Cond.code yX4_takeLine cX4_takeLine 3 none ∈ TW := List.mem_filter.mpr ⟨List.mem_of_getElem? (i := 265) (by decide +kernel), by decide +kernel⟩
theorem tw_ins_X0_layOut : Cond.instanceMethod yX0_layOut ∈ TW := List.mem_filter.mpr ⟨List.mem_of_getElem? (i := 268) (by decide +kernel), by decide +kernel⟩
theorem tw_cod_X0_layOut : Cond.code yX0_layOut cX0_layOut 5 none ∈ TW := List.mem_filter.mpr ⟨List.mem_of_getElem? (i := 269) (by decide +kernel), by decide +kernel⟩
theorem tw_ml_X0_33 : Cond.methodLink RX0 33 yX0_pointsOf ∈ TW := List.mem_filter.mpr ⟨List.mem_of_getElem? (i := 270) (by decide +kernel), by decide +kernel⟩
theorem tw_ins_X0_pointsOf : Cond.instanceMethod yX0_pointsOf ∈ TW := List.mem_filter.mpr ⟨List.mem_of_getElem? (i := 272) (by decide +kernel), by decide +kernel⟩
theorem tw_cod_X0_pointsOf : Cond.code yX0_pointsOf cX0_pointsOf 2 (some .int) ∈ TW := List.mem_filter.mpr ⟨List.mem_of_getElem? (i := 273) (by decide +kernel), by decide +kernel⟩
theorem tw_ml_X0_43 : Cond.methodLink RX0 43 yX0_cell ∈ TW := List.mem_filter.mpr ⟨List.mem_of_getElem? (i := 274) (by decide +kernel), by decide +kernel⟩
theorem tw_ins_X0_cell : Cond.instanceMethod yX0_cell ∈ TW := List.mem_filter.mpr ⟨List.mem_of_getElem? (i := 276) (by decide +kernel), by decide +kernel⟩
theorem tw_cod_X0_cell : Cond.code yX0_cell cX0_cell 4 (some .int) ∈ TW := List.mem_filter.mpr ⟨List.mem_of_getElem? (i := 277) (by decide +kernel), by decide +kernel⟩
theorem tw_ins_X3_bendAt : Cond.instanceMethod yX3_bendAt ∈ TW := List.mem_filter.mpr ⟨List.mem_of_getElem? (i := 281) (by decide +kernel), by decide +kernel⟩
theorem tw_cod_X3_bendAt : Cond.code yX3_bendAt cX3_bendAt 2 (some .int) ∈ TW := List.mem_filter.mpr ⟨List.mem_of_getElem? (i := 282) (by decide +kernel), by decide +kernel⟩
theorem tw_ml_L_40 : Cond.methodLink RL 40 yX4_jump ∈ TW := List.mem_filter.mpr ⟨List.mem_of_getElem? (i := 283) (by decide +kernel), by decide +kernel⟩
theorem tw_ins_X4_jump : Cond.instanceMethod yX4_jump ∈ TW := List.mem_filter.mpr ⟨List.mem_of_getElem? (i := 284) (by decide +kernel), by decide +kernel⟩
theorem tw_sel_X4_jump : Cond.selects RX4 yX4_jump yX4_jump ∈ TW := List.mem_filter.mpr ⟨List.mem_of_getElem? (i := 285) (by decide +kernel), by decide +kernel⟩
theorem tw_cod_X4_jump : Cond.code yX4_jump cX4_jump 5 (some .int) ∈ TW := List.mem_filter.mpr ⟨List.mem_of_getElem? (i := 286) (by decide +kernel), by decide +kernel⟩
theorem tw_ins_X3_jumpAt : Cond.instanceMethod yX3_jumpAt ∈ TW := List.mem_filter.mpr ⟨List.mem_of_getElem? (i := 289) (by decide +kernel), by decide +kernel⟩
theorem tw_cod_X3_jumpAt : Cond.code yX3_jumpAt cX3_jumpAt 2 (some .int) ∈ TW := List.mem_filter.mpr ⟨List.mem_of_getElem? (i := 290) (by decide +kernel), by decide +kernel⟩
theorem tw_ml_X3_15 : Cond.methodLink RX3 15 yX3_bendAt ∈ TW := List.mem_filter.mpr ⟨List.mem_of_getElem? (i := 291) (by decide +kernel), by decide +kernel⟩
theorem tw_ml_L_44 : Cond.methodLink RL 44 yX4_roughest ∈ TW := List.mem_filter.mpr ⟨List.mem_of_getElem? (i := 292) (by decide +kernel), by decide +kernel⟩
theorem tw_ins_X4_roughest : Cond.instanceMethod yX4_roughest ∈ TW := List.mem_filter.mpr ⟨List.mem_of_getElem? (i := 293) (by decide +kernel), by decide +kernel⟩
theorem tw_sel_X4_roughest : Cond.selects RX4 yX4_roughest yX4_roughest ∈ TW := List.mem_filter.mpr ⟨List.mem_of_getElem? (i := 294) (by decide +kernel), by decide +kernel⟩
theorem tw_cod_X4_roughest : Cond.code yX4_roughest cX4_roughest 7 (some .int) ∈ TW := List.mem_filter.mpr ⟨List.mem_of_getElem? (i := 295) (by decide +kernel), by decide +kernel⟩
theorem tw_ins_X3_farthestJump : Cond.instanceMethod yX3_farthestJump ∈ TW := List.mem_filter.mpr ⟨List.mem_of_getElem? (i := 298) (by decide +kernel), by decide +kernel⟩
theorem tw_cod_X3_farthestJump : Cond.code yX3_farthestJump cX3_farthestJump 3 (some .int) ∈ TW := List.mem_filter.mpr ⟨List.mem_of_getElem? (i := 299) (by decide +kernel), by decide +kernel⟩
theorem tw_ml_X3_23 : Cond.methodLink RX3 23 yX3_jumpAt ∈ TW := List.mem_filter.mpr ⟨List.mem_of_getElem? (i := 300) (by decide +kernel), by decide +kernel⟩
theorem tw_ml_X3_26 : Cond.methodLink RX3 26 Lib.Math.abs.name ∈ TW := List.mem_filter.mpr ⟨List.mem_of_getElem? (i := 301) (by decide +kernel), by decide +kernel⟩
theorem tw_sta_Math_abs : Cond.static Lib.Math.abs.name ∈ TW := List.mem_filter.mpr ⟨List.mem_of_getElem? (i := 302) (by decide +kernel), by decide +kernel⟩
theorem tw_cod_Math_abs : Cond.code Lib.Math.abs.name Lib.Math.abs.code 1 (some .int) ∈ TW := List.mem_filter.mpr ⟨List.mem_of_getElem? (i := 303) (by decide +kernel), by decide +kernel⟩
theorem tw_ml_X3_31 : Cond.methodLink RX3 31 Lib.Math.max.name ∈ TW := List.mem_filter.mpr ⟨List.mem_of_getElem? (i := 304) (by decide +kernel), by decide +kernel⟩
theorem tw_sta_Math_max : Cond.static Lib.Math.max.name ∈ TW := List.mem_filter.mpr ⟨List.mem_of_getElem? (i := 305) (by decide +kernel), by decide +kernel⟩
theorem tw_cod_Math_max : Cond.code Lib.Math.max.name Lib.Math.max.code 2 (some .int) ∈ TW := List.mem_filter.mpr ⟨List.mem_of_getElem? (i := 306) (by decide +kernel), by decide +kernel⟩
theorem tw_ins_X3_firstJumpThatFar : Cond.instanceMethod yX3_firstJumpThatFar ∈ TW := List.mem_filter.mpr ⟨List.mem_of_getElem? (i := 309) (by decide +kernel), by decide +kernel⟩
theorem tw_cod_X3_firstJumpThatFar : Cond.code yX3_firstJumpThatFar cX3_firstJumpThatFar 3 (some .int) ∈ TW := List.mem_filter.mpr ⟨List.mem_of_getElem? (i := 310) (by decide +kernel), by decide +kernel⟩
theorem tw_ml_L_49 : Cond.methodLink RL 49 yX4_rough ∈ TW := List.mem_filter.mpr ⟨List.mem_of_getElem? (i := 311) (by decide +kernel), by decide +kernel⟩
theorem tw_ins_X4_rough : Cond.instanceMethod yX4_rough ∈ TW := List.mem_filter.mpr ⟨List.mem_of_getElem? (i := 312) (by decide +kernel), by decide +kernel⟩
theorem tw_sel_X4_rough : Cond.selects RX4 yX4_rough yX4_rough ∈ TW := List.mem_filter.mpr ⟨List.mem_of_getElem? (i := 313) (by decide +kernel), by decide +kernel⟩
theorem tw_cod_X4_rough : Cond.code yX4_rough cX4_rough 4 (some .int) ∈ TW := List.mem_filter.mpr ⟨List.mem_of_getElem? (i := 314) (by decide +kernel), by decide +kernel⟩
theorem tw_ins_X3_countJumpsBeyond : Cond.instanceMethod yX3_countJumpsBeyond ∈ TW := List.mem_filter.mpr ⟨List.mem_of_getElem? (i := 317) (by decide +kernel), by decide +kernel⟩
theorem tw_cod_X3_countJumpsBeyond : Cond.code yX3_countJumpsBeyond cX3_countJumpsBeyond 4 (some .int) ∈ TW := List.mem_filter.mpr ⟨List.mem_of_getElem? (i := 318) (by decide +kernel), by decide +kernel⟩
theorem tw_ml_L_53 : Cond.methodLink RL 53 yX4_least ∈ TW := List.mem_filter.mpr ⟨List.mem_of_getElem? (i := 319) (by decide +kernel), by decide +kernel⟩
theorem tw_ins_X4_least : Cond.instanceMethod yX4_least ∈ TW := List.mem_filter.mpr ⟨List.mem_of_getElem? (i := 320) (by decide +kernel), by decide +kernel⟩
theorem tw_sel_X4_least : Cond.selects RX4 yX4_least yX4_least ∈ TW := List.mem_filter.mpr ⟨List.mem_of_getElem? (i := 321) (by decide +kernel), by decide +kernel⟩
theorem tw_cod_X4_least : Cond.code yX4_least cX4_least 6 (some .int) ∈ TW := List.mem_filter.mpr ⟨List.mem_of_getElem? (i := 322) (by decide +kernel), by decide +kernel⟩
theorem tw_ml_X4_125 : Cond.methodLink RX4 125 yX4_seekLeast ∈ TW := List.mem_filter.mpr ⟨List.mem_of_getElem? (i := 324) (by decide +kernel), by decide +kernel⟩
theorem tw_ins_X4_seekLeast : Cond.instanceMethod yX4_seekLeast ∈ TW := List.mem_filter.mpr ⟨List.mem_of_getElem? (i := 326) (by decide +kernel), by decide +kernel⟩
theorem tw_cod_X4_seekLeast : Cond.code yX4_seekLeast cX4_seekLeast 8 (some .int) ∈ TW := List.mem_filter.mpr ⟨List.mem_of_getElem? (i := 327) (by decide +kernel), by decide +kernel⟩
theorem tw_ins_X2_stay : Cond.instanceMethod yX2_stay ∈ TW := List.mem_filter.mpr ⟨List.mem_of_getElem? (i := 330) (by decide +kernel), by decide +kernel⟩
theorem tw_cod_X2_stay : Cond.code yX2_stay cX2_stay 2 none ∈ TW := List.mem_filter.mpr ⟨List.mem_of_getElem? (i := 331) (by decide +kernel), by decide +kernel⟩
theorem tw_ins_X2_place : Cond.instanceMethod yX2_place ∈ TW := List.mem_filter.mpr ⟨List.mem_of_getElem? (i := 335) (by decide +kernel), by decide +kernel⟩
theorem tw_cod_X2_place : Cond.code yX2_place cX2_place 4 none ∈ TW := List.mem_filter.mpr ⟨List.mem_of_getElem? (i := 336) (by decide +kernel), by decide +kernel⟩
theorem tw_ml_X2_27 : Cond.methodLink RX2 27 Lib.Math.max.name ∈ TW := List.mem_filter.mpr ⟨List.mem_of_getElem? (i := 337) (by decide +kernel), by decide +kernel⟩
theorem tw_ml_X2_33 : Cond.methodLink RX2 33 Lib.Math.min.name ∈ TW := List.mem_filter.mpr ⟨List.mem_of_getElem? (i := 338) (by decide +kernel), by decide +kernel⟩
theorem tw_sta_Math_min : Cond.static Lib.Math.min.name ∈ TW := List.mem_filter.mpr ⟨List.mem_of_getElem? (i := 339) (by decide +kernel), by decide +kernel⟩
theorem tw_cod_Math_min : Cond.code Lib.Math.min.name Lib.Math.min.code 2 (some .int) ∈ TW := List.mem_filter.mpr ⟨List.mem_of_getElem? (i := 340) (by decide +kernel), by decide +kernel⟩
theorem tw_ins_X2_seek : Cond.instanceMethod yX2_seek ∈ TW := List.mem_filter.mpr ⟨List.mem_of_getElem? (i := 343) (by decide +kernel), by decide +kernel⟩
theorem tw_cod_X2_seek : Cond.code yX2_seek cX2_seek 5 (some .int) ∈ TW := List.mem_filter.mpr ⟨List.mem_of_getElem? (i := 344) (by decide +kernel), by decide +kernel⟩
theorem tw_ml_X2_43 : Cond.methodLink RX2 43 yX2_keepFewest ∈ TW := List.mem_filter.mpr ⟨List.mem_of_getElem? (i := 345) (by decide +kernel), by decide +kernel⟩
theorem tw_ins_X2_keepFewest : Cond.instanceMethod yX2_keepFewest ∈ TW := List.mem_filter.mpr ⟨List.mem_of_getElem? (i := 347) (by decide +kernel), by decide +kernel⟩
theorem tw_cod_X2_keepFewest : Cond.code yX2_keepFewest cX2_keepFewest 5 none ∈ TW := List.mem_filter.mpr ⟨List.mem_of_getElem? (i := 348) (by decide +kernel), by decide +kernel⟩
theorem tw_ml_X2_47 : Cond.methodLink RX2 47 yX2_slot ∈ TW := List.mem_filter.mpr ⟨List.mem_of_getElem? (i := 349) (by decide +kernel), by decide +kernel⟩
theorem tw_ins_X2_slot : Cond.instanceMethod yX2_slot ∈ TW := List.mem_filter.mpr ⟨List.mem_of_getElem? (i := 351) (by decide +kernel), by decide +kernel⟩
theorem tw_cod_X2_slot : Cond.code yX2_slot cX2_slot 6 (some .int) ∈ TW := List.mem_filter.mpr ⟨List.mem_of_getElem? (i := 352) (by decide +kernel), by decide +kernel⟩
theorem tw_ml_X2_54 : Cond.methodLink RX2 54 yX2_fewestFrom ∈ TW := List.mem_filter.mpr ⟨List.mem_of_getElem? (i := 353) (by decide +kernel), by decide +kernel⟩
theorem tw_ins_X2_fewestFrom : Cond.instanceMethod yX2_fewestFrom ∈ TW := List.mem_filter.mpr ⟨List.mem_of_getElem? (i := 355) (by decide +kernel), by decide +kernel⟩
theorem tw_cod_X2_fewestFrom : Cond.code yX2_fewestFrom cX2_fewestFrom 10 (some .int) ∈ TW := List.mem_filter.mpr ⟨List.mem_of_getElem? (i := 356) (by decide +kernel), by decide +kernel⟩
theorem tw_ml_X2_57 : Cond.methodLink RX2 57 yX2_jumpUnmoved ∈ TW := List.mem_filter.mpr ⟨List.mem_of_getElem? (i := 357) (by decide +kernel), by decide +kernel⟩
theorem tw_ins_X2_jumpUnmoved : Cond.instanceMethod yX2_jumpUnmoved ∈ TW := List.mem_filter.mpr ⟨List.mem_of_getElem? (i := 359) (by decide +kernel), by decide +kernel⟩
theorem tw_cod_X2_jumpUnmoved : Cond.code yX2_jumpUnmoved cX2_jumpUnmoved 5 (some .int) ∈ TW := List.mem_filter.mpr ⟨List.mem_of_getElem? (i := 360) (by decide +kernel), by decide +kernel⟩
theorem tw_ml_X2_60 : Cond.methodLink RX2 60 yX2_lastFit ∈ TW := List.mem_filter.mpr ⟨List.mem_of_getElem? (i := 361) (by decide +kernel), by decide +kernel⟩
theorem tw_ins_X2_lastFit : Cond.instanceMethod yX2_lastFit ∈ TW := List.mem_filter.mpr ⟨List.mem_of_getElem? (i := 363) (by decide +kernel), by decide +kernel⟩
theorem tw_cod_X2_lastFit : Cond.code yX2_lastFit cX2_lastFit 4 (some .int) ∈ TW := List.mem_filter.mpr ⟨List.mem_of_getElem? (i := 364) (by decide +kernel), by decide +kernel⟩
theorem tw_ml_X2_63 : Cond.methodLink RX2 63 yX2_firstFit ∈ TW := List.mem_filter.mpr ⟨List.mem_of_getElem? (i := 365) (by decide +kernel), by decide +kernel⟩
theorem tw_ins_X2_firstFit : Cond.instanceMethod yX2_firstFit ∈ TW := List.mem_filter.mpr ⟨List.mem_of_getElem? (i := 367) (by decide +kernel), by decide +kernel⟩
theorem tw_cod_X2_firstFit : Cond.code yX2_firstFit cX2_firstFit 4 (some .int) ∈ TW := List.mem_filter.mpr ⟨List.mem_of_getElem? (i := 368) (by decide +kernel), by decide +kernel⟩
theorem tw_ml_X2_66 : Cond.methodLink RX2 66 Lib.Math.abs.name ∈ TW := List.mem_filter.mpr ⟨List.mem_of_getElem? (i := 369) (by decide +kernel), by decide +kernel⟩
theorem tw_ml_X2_51 : Cond.methodLink RX2 51 yX2_firstLeading ∈ TW := List.mem_filter.mpr ⟨List.mem_of_getElem? (i := 370) (by decide +kernel), by decide +kernel⟩
theorem tw_ins_X2_firstLeading : Cond.instanceMethod yX2_firstLeading ∈ TW := List.mem_filter.mpr ⟨List.mem_of_getElem? (i := 372) (by decide +kernel), by decide +kernel⟩
theorem tw_cod_X2_firstLeading : Cond.code yX2_firstLeading cX2_firstLeading 10 (some .int) ∈ TW := List.mem_filter.mpr ⟨List.mem_of_getElem? (i := 373) (by decide +kernel), by decide +kernel⟩
theorem tw_ins_X2_moveOf : Cond.instanceMethod yX2_moveOf ∈ TW := List.mem_filter.mpr ⟨List.mem_of_getElem? (i := 376) (by decide +kernel), by decide +kernel⟩
theorem tw_cod_X2_moveOf : Cond.code yX2_moveOf cX2_moveOf 2 (some .int) ∈ TW := List.mem_filter.mpr ⟨List.mem_of_getElem? (i := 377) (by decide +kernel), by decide +kernel⟩
theorem tw_ml_L_57 : Cond.methodLink RL 57 yX4_fair ∈ TW := List.mem_filter.mpr ⟨List.mem_of_getElem? (i := 378) (by decide +kernel), by decide +kernel⟩
theorem tw_ins_X4_fair : Cond.instanceMethod yX4_fair ∈ TW := List.mem_filter.mpr ⟨List.mem_of_getElem? (i := 379) (by decide +kernel), by decide +kernel⟩
theorem tw_sel_X4_fair : Cond.selects RX4 yX4_fair yX4_fair ∈ TW := List.mem_filter.mpr ⟨List.mem_of_getElem? (i := 380) (by decide +kernel), by decide +kernel⟩
theorem tw_cod_X4_fair : Cond.code yX4_fair cX4_fair 5 (some .int) ∈ TW := List.mem_filter.mpr ⟨List.mem_of_getElem? (i := 381) (by decide +kernel), by decide +kernel⟩
theorem tw_ml_X4_131 : Cond.methodLink RX4 131 yX4_addMoves ∈ TW := List.mem_filter.mpr ⟨List.mem_of_getElem? (i := 382) (by decide +kernel), by decide +kernel⟩
theorem tw_ins_X4_addMoves : Cond.instanceMethod yX4_addMoves ∈ TW := List.mem_filter.mpr ⟨List.mem_of_getElem? (i := 384) (by decide +kernel), by decide +kernel⟩
theorem tw_cod_X4_addMoves : Cond.code yX4_addMoves cX4_addMoves 5 none ∈ TW := List.mem_filter.mpr ⟨List.mem_of_getElem? (i := 385) (by decide +kernel), by decide +kernel⟩
theorem tw_ml_L_61 : Cond.methodLink RL 61 yX4_rounds ∈ TW := List.mem_filter.mpr ⟨List.mem_of_getElem? (i := 386) (by decide +kernel), by decide +kernel⟩
theorem tw_ins_X4_rounds : Cond.instanceMethod yX4_rounds ∈ TW := List.mem_filter.mpr ⟨List.mem_of_getElem? (i := 387) (by decide +kernel), by decide +kernel⟩
theorem tw_sel_X4_rounds : Cond.selects RX4 yX4_rounds yX4_rounds ∈ TW := List.mem_filter.mpr ⟨List.mem_of_getElem? (i := 388) (by decide +kernel), by decide +kernel⟩
theorem tw_cod_X4_rounds : Cond.code yX4_rounds cX4_rounds 3 (some .int) ∈ TW := List.mem_filter.mpr ⟨List.mem_of_getElem? (i := 389) (by decide +kernel), by decide +kernel⟩
theorem tw_ml_X4_134 : Cond.methodLink RX4 134 yX4_roundChanges ∈ TW := List.mem_filter.mpr ⟨List.mem_of_getElem? (i := 390) (by decide +kernel), by decide +kernel⟩
theorem tw_ins_X4_roundChanges : Cond.instanceMethod yX4_roundChanges ∈ TW := List.mem_filter.mpr ⟨List.mem_of_getElem? (i := 392) (by decide +kernel), by decide +kernel⟩
theorem tw_cod_X4_roundChanges : Cond.code yX4_roundChanges cX4_roundChanges 3 (some .boolean) ∈ TW := List.mem_filter.mpr ⟨List.mem_of_getElem? (i := 393) (by decide +kernel), by decide +kernel⟩
theorem tw_ml_X4_214 : Cond.methodLink RX4 214 arraycopyName ∈ TW := List.mem_filter.mpr ⟨List.mem_of_getElem? (i := 394) (by decide +kernel), by decide +kernel⟩
theorem tw_sta_System_arraycopy : Cond.static arraycopyName ∈ TW := List.mem_filter.mpr ⟨List.mem_of_getElem? (i := 395) (by decide +kernel), by decide +kernel⟩
theorem tw_nat_System_arraycopy : Cond.native arraycopyName ∈ TW := List.mem_filter.mpr ⟨List.mem_of_getElem? (i := 396) (by decide +kernel), by decide +kernel⟩
theorem tw_ml_L_65 : Cond.methodLink RL 65 yX4_back ∈ TW := List.mem_filter.mpr ⟨List.mem_of_getElem? (i := 397) (by decide +kernel), by decide +kernel⟩
theorem tw_ins_X4_back : Cond.instanceMethod yX4_back ∈ TW := List.mem_filter.mpr ⟨List.mem_of_getElem? (i := 398) (by decide +kernel), by decide +kernel⟩
theorem tw_sel_X4_back : Cond.selects RX4 yX4_back yX4_back ∈ TW := List.mem_filter.mpr ⟨List.mem_of_getElem? (i := 399) (by decide +kernel), by decide +kernel⟩
theorem tw_cod_X4_back : Cond.code yX4_back cX4_back 3 (some .int) ∈ TW := List.mem_filter.mpr ⟨List.mem_of_getElem? (i := 400) (by decide +kernel), by decide +kernel⟩
theorem tw_ml_L_70 : Cond.methodLink RL 70 yX4_area ∈ TW := List.mem_filter.mpr ⟨List.mem_of_getElem? (i := 401) (by decide +kernel), by decide +kernel⟩
theorem tw_ins_X4_area : Cond.instanceMethod yX4_area ∈ TW := List.mem_filter.mpr ⟨List.mem_of_getElem? (i := 402) (by decide +kernel), by decide +kernel⟩
theorem tw_sel_X4_area : Cond.selects RX4 yX4_area yX4_area ∈ TW := List.mem_filter.mpr ⟨List.mem_of_getElem? (i := 403) (by decide +kernel), by decide +kernel⟩
theorem tw_cod_X4_area : Cond.code yX4_area cX4_area 4 (some .long) ∈ TW := List.mem_filter.mpr ⟨List.mem_of_getElem? (i := 404) (by decide +kernel), by decide +kernel⟩
theorem tw_cl_X4_141 : Cond.constantLong RX4 141 (i64 (-9223372036854775808)) ∈ TW := List.mem_filter.mpr ⟨List.mem_of_getElem? (i := 405) (by decide +kernel), by decide +kernel⟩
theorem tw_ml_X4_143 : Cond.methodLink RX4 143 yX4_areaInSixths ∈ TW := List.mem_filter.mpr ⟨List.mem_of_getElem? (i := 406) (by decide +kernel), by decide +kernel⟩
theorem tw_ins_X4_areaInSixths : Cond.instanceMethod yX4_areaInSixths ∈ TW := List.mem_filter.mpr ⟨List.mem_of_getElem? (i := 408) (by decide +kernel), by decide +kernel⟩
theorem tw_cod_X4_areaInSixths : Cond.code yX4_areaInSixths cX4_areaInSixths 4 (some .int) ∈ TW := List.mem_filter.mpr ⟨List.mem_of_getElem? (i := 409) (by decide +kernel), by decide +kernel⟩
theorem tw_ml_X4_153 : Cond.methodLink RX4 153 yX4_sumInSixths ∈ TW := List.mem_filter.mpr ⟨List.mem_of_getElem? (i := 410) (by decide +kernel), by decide +kernel⟩
theorem tw_sta_X4_sumInSixths : Cond.static yX4_sumInSixths ∈ TW := List.mem_filter.mpr ⟨List.mem_of_getElem? (i := 411) (by decide +kernel), by decide +kernel⟩
theorem tw_cod_X4_sumInSixths : Cond.code yX4_sumInSixths cX4_sumInSixths 5 (some .int) ∈ TW := List.mem_filter.mpr ⟨List.mem_of_getElem? (i := 412) (by decide +kernel), by decide +kernel⟩
theorem tw_cl_X4_146 : Cond.constantLong RX4 146 (i64 (6)) ∈ TW := List.mem_filter.mpr ⟨List.mem_of_getElem? (i := 413) (by decide +kernel), by decide +kernel⟩
theorem tw_ml_X4_148 : Cond.methodLink RX4 148 yX4_toldShare ∈ TW := List.mem_filter.mpr ⟨List.mem_of_getElem? (i := 414) (by decide +kernel), by decide +kernel⟩
theorem tw_sta_X4_toldShare : Cond.static yX4_toldShare ∈ TW := List.mem_filter.mpr ⟨List.mem_of_getElem? (i := 415) (by decide +kernel), by decide +kernel⟩
theorem tw_cod_X4_toldShare : Cond.code yX4_toldShare cX4_toldShare 7 (some .long) ∈ TW := List.mem_filter.mpr ⟨List.mem_of_getElem? (i := 416) (by decide +kernel), by decide +kernel⟩
theorem tw_ml_X4_220 : Cond.methodLink RX4 220 yX4_commonDivisor ∈ TW := List.mem_filter.mpr ⟨List.mem_of_getElem? (i := 417) (by decide +kernel), by decide +kernel⟩
theorem tw_sta_X4_commonDivisor : Cond.static yX4_commonDivisor ∈ TW := List.mem_filter.mpr ⟨List.mem_of_getElem? (i := 418) (by decide +kernel), by decide +kernel⟩
theorem tw_cod_X4_commonDivisor : Cond.code yX4_commonDivisor cX4_commonDivisor 11 (some .long) ∈ TW := List.mem_filter.mpr ⟨List.mem_of_getElem? (i := 419) (by decide +kernel), by decide +kernel⟩
theorem tw_ml_L_75 : Cond.methodLink RL 75 yX4_centre ∈ TW := List.mem_filter.mpr ⟨List.mem_of_getElem? (i := 420) (by decide +kernel), by decide +kernel⟩
theorem tw_ins_X4_centre : Cond.instanceMethod yX4_centre ∈ TW := List.mem_filter.mpr ⟨List.mem_of_getElem? (i := 421) (by decide +kernel), by decide +kernel⟩
theorem tw_sel_X4_centre : Cond.selects RX4 yX4_centre yX4_centre ∈ TW := List.mem_filter.mpr ⟨List.mem_of_getElem? (i := 422) (by decide +kernel), by decide +kernel⟩
theorem tw_cod_X4_centre : Cond.code yX4_centre cX4_centre 6 (some .long) ∈ TW := List.mem_filter.mpr ⟨List.mem_of_getElem? (i := 423) (by decide +kernel), by decide +kernel⟩
theorem tw_ml_L_79 : Cond.methodLink RL 79 yX4_volume ∈ TW := List.mem_filter.mpr ⟨List.mem_of_getElem? (i := 424) (by decide +kernel), by decide +kernel⟩
theorem tw_ins_X4_volume : Cond.instanceMethod yX4_volume ∈ TW := List.mem_filter.mpr ⟨List.mem_of_getElem? (i := 425) (by decide +kernel), by decide +kernel⟩
theorem tw_sel_X4_volume : Cond.selects RX4 yX4_volume yX4_volume ∈ TW := List.mem_filter.mpr ⟨List.mem_of_getElem? (i := 426) (by decide +kernel), by decide +kernel⟩
theorem tw_cod_X4_volume : Cond.code yX4_volume cX4_volume 6 (some .long) ∈ TW := List.mem_filter.mpr ⟨List.mem_of_getElem? (i := 427) (by decide +kernel), by decide +kernel⟩
theorem tw_cl_X4_157 : Cond.constantLong RX4 157 (i64 (36)) ∈ TW := List.mem_filter.mpr ⟨List.mem_of_getElem? (i := 428) (by decide +kernel), by decide +kernel⟩
theorem tw_ml_L_84 : Cond.methodLink RL 84 yX4_height ∈ TW := List.mem_filter.mpr ⟨List.mem_of_getElem? (i := 429) (by decide +kernel), by decide +kernel⟩
theorem tw_ins_X4_height : Cond.instanceMethod yX4_height ∈ TW := List.mem_filter.mpr ⟨List.mem_of_getElem? (i := 430) (by decide +kernel), by decide +kernel⟩
theorem tw_sel_X4_height : Cond.selects RX4 yX4_height yX4_height ∈ TW := List.mem_filter.mpr ⟨List.mem_of_getElem? (i := 431) (by decide +kernel), by decide +kernel⟩
theorem tw_cod_X4_height : Cond.code yX4_height cX4_height 4 (some .long) ∈ TW := List.mem_filter.mpr ⟨List.mem_of_getElem? (i := 432) (by decide +kernel), by decide +kernel⟩
theorem tw_ins_X1_measure : Cond.instanceMethod yX1_measure ∈ TW := List.mem_filter.mpr ⟨List.mem_of_getElem? (i := 435) (by decide +kernel), by decide +kernel⟩
theorem tw_cod_X1_measure : Cond.code yX1_measure cX1_measure 6 none ∈ TW := List.mem_filter.mpr ⟨List.mem_of_getElem? (i := 436) (by decide +kernel), by decide +kernel⟩
theorem tw_ins_X1_isThere : Cond.instanceMethod yX1_isThere ∈ TW := List.mem_filter.mpr ⟨List.mem_of_getElem? (i := 440) (by decide +kernel), by decide +kernel⟩
theorem tw_cod_X1_isThere : Cond.code yX1_isThere cX1_isThere 2 (some .boolean) ∈ TW := List.mem_filter.mpr ⟨List.mem_of_getElem? (i := 441) (by decide +kernel), by decide +kernel⟩
theorem tw_ml_L_88 : Cond.methodLink RL 88 yX4_breaks ∈ TW := List.mem_filter.mpr ⟨List.mem_of_getElem? (i := 442) (by decide +kernel), by decide +kernel⟩
theorem tw_ins_X4_breaks : Cond.instanceMethod yX4_breaks ∈ TW := List.mem_filter.mpr ⟨List.mem_of_getElem? (i := 443) (by decide +kernel), by decide +kernel⟩
theorem tw_sel_X4_breaks : Cond.selects RX4 yX4_breaks yX4_breaks ∈ TW := List.mem_filter.mpr ⟨List.mem_of_getElem? (i := 444) (by decide +kernel), by decide +kernel⟩
theorem tw_cod_X4_breaks : Cond.code yX4_breaks cX4_breaks 2 (some .int) ∈ TW := List.mem_filter.mpr ⟨List.mem_of_getElem? (i := 445) (by decide +kernel), by decide +kernel⟩
theorem tw_ins_X1_countBreaks : Cond.instanceMethod yX1_countBreaks ∈ TW := List.mem_filter.mpr ⟨List.mem_of_getElem? (i := 448) (by decide +kernel), by decide +kernel⟩
theorem tw_cod_X1_countBreaks : Cond.code yX1_countBreaks cX1_countBreaks 6 (some .int) ∈ TW := List.mem_filter.mpr ⟨List.mem_of_getElem? (i := 449) (by decide +kernel), by decide +kernel⟩
theorem tw_ml_X1_35 : Cond.methodLink RX1 35 yX1_measure ∈ TW := List.mem_filter.mpr ⟨List.mem_of_getElem? (i := 450) (by decide +kernel), by decide +kernel⟩
theorem tw_ml_X1_39 : Cond.methodLink RX1 39 yX1_isBreak ∈ TW := List.mem_filter.mpr ⟨List.mem_of_getElem? (i := 451) (by decide +kernel), by decide +kernel⟩
theorem tw_ins_X1_isBreak : Cond.instanceMethod yX1_isBreak ∈ TW := List.mem_filter.mpr ⟨List.mem_of_getElem? (i := 453) (by decide +kernel), by decide +kernel⟩
theorem tw_cod_X1_isBreak : Cond.code yX1_isBreak cX1_isBreak 11 (some .boolean) ∈ TW := List.mem_filter.mpr ⟨List.mem_of_getElem? (i := 454) (by decide +kernel), by decide +kernel⟩
theorem tw_ml_X1_43 : Cond.methodLink RX1 43 yX1_isThere ∈ TW := List.mem_filter.mpr ⟨List.mem_of_getElem? (i := 455) (by decide +kernel), by decide +kernel⟩
theorem tw_cl_X1_47 : Cond.constantLong RX1 47 (i64 (3)) ∈ TW := List.mem_filter.mpr ⟨List.mem_of_getElem? (i := 456) (by decide +kernel), by decide +kernel⟩
theorem tw_cl_X1_49 : Cond.constantLong RX1 49 (i64 (100)) ∈ TW := List.mem_filter.mpr ⟨List.mem_of_getElem? (i := 457) (by decide +kernel), by decide +kernel⟩
theorem tw_ml_X1_51 : Cond.methodLink RX1 51 Lib.MathLoose.abs_long.x ∈ TW := List.mem_filter.mpr ⟨List.mem_of_getElem? (i := 458) (by decide +kernel), by decide +kernel⟩
theorem tw_sta_Math_absL : Cond.static Lib.MathLoose.abs_long.x ∈ TW := List.mem_filter.mpr ⟨List.mem_of_getElem? (i := 459) (by decide +kernel), by decide +kernel⟩
theorem tw_cod_Math_absL : Cond.code Lib.MathLoose.abs_long.x Lib.MathLoose.abs_long.code 2 (some .long) ∈ TW := List.mem_filter.mpr ⟨List.mem_of_getElem? (i := 460) (by decide +kernel), by decide +kernel⟩
theorem tw_ml_L_92 : Cond.methodLink RL 92 yX4_worst ∈ TW := List.mem_filter.mpr ⟨List.mem_of_getElem? (i := 461) (by decide +kernel), by decide +kernel⟩
theorem tw_ins_X4_worst : Cond.instanceMethod yX4_worst ∈ TW := List.mem_filter.mpr ⟨List.mem_of_getElem? (i := 462) (by decide +kernel), by decide +kernel⟩
theorem tw_sel_X4_worst : Cond.selects RX4 yX4_worst yX4_worst ∈ TW := List.mem_filter.mpr ⟨List.mem_of_getElem? (i := 463) (by decide +kernel), by decide +kernel⟩
theorem tw_cod_X4_worst : Cond.code yX4_worst cX4_worst 6 (some .int) ∈ TW := List.mem_filter.mpr ⟨List.mem_of_getElem? (i := 464) (by decide +kernel), by decide +kernel⟩
theorem tw_ins_X0_broadest : Cond.instanceMethod yX0_broadest ∈ TW := List.mem_filter.mpr ⟨List.mem_of_getElem? (i := 467) (by decide +kernel), by decide +kernel⟩
theorem tw_cod_X0_broadest : Cond.code yX0_broadest cX0_broadest 3 (some .int) ∈ TW := List.mem_filter.mpr ⟨List.mem_of_getElem? (i := 468) (by decide +kernel), by decide +kernel⟩
theorem tw_ml_X0_55 : Cond.methodLink RX0 55 Lib.Math.max.name ∈ TW := List.mem_filter.mpr ⟨List.mem_of_getElem? (i := 469) (by decide +kernel), by decide +kernel⟩
theorem tw_ml_L_96 : Cond.methodLink RL 96 yX4_many ∈ TW := List.mem_filter.mpr ⟨List.mem_of_getElem? (i := 470) (by decide +kernel), by decide +kernel⟩
theorem tw_ins_X4_many : Cond.instanceMethod yX4_many ∈ TW := List.mem_filter.mpr ⟨List.mem_of_getElem? (i := 471) (by decide +kernel), by decide +kernel⟩
theorem tw_sel_X4_many : Cond.selects RX4 yX4_many yX4_many ∈ TW := List.mem_filter.mpr ⟨List.mem_of_getElem? (i := 472) (by decide +kernel), by decide +kernel⟩
theorem tw_cod_X4_many : Cond.code yX4_many cX4_many 2 (some .int) ∈ TW := List.mem_filter.mpr ⟨List.mem_of_getElem? (i := 473) (by decide +kernel), by decide +kernel⟩
theorem tw_ins_X0_countHeld : Cond.instanceMethod yX0_countHeld ∈ TW := List.mem_filter.mpr ⟨List.mem_of_getElem? (i := 476) (by decide +kernel), by decide +kernel⟩
theorem tw_cod_X0_countHeld : Cond.code yX0_countHeld cX0_countHeld 3 (some .int) ∈ TW := List.mem_filter.mpr ⟨List.mem_of_getElem? (i := 477) (by decide +kernel), by decide +kernel⟩
theorem tw_ml_X4_190 : Cond.methodLink RX4 190 yX4_countUnfair ∈ TW := List.mem_filter.mpr ⟨List.mem_of_getElem? (i := 478) (by decide +kernel), by decide +kernel⟩
theorem tw_ins_X4_countUnfair : Cond.instanceMethod yX4_countUnfair ∈ TW := List.mem_filter.mpr ⟨List.mem_of_getElem? (i := 480) (by decide +kernel), by decide +kernel⟩
theorem tw_cod_X4_countUnfair : Cond.code yX4_countUnfair cX4_countUnfair 4 (some .int) ∈ TW := List.mem_filter.mpr ⟨List.mem_of_getElem? (i := 481) (by decide +kernel), by decide +kernel⟩
theorem tw_ins_X0_farFromPuts : Cond.instanceMethod yX0_farFromPuts ∈ TW := List.mem_filter.mpr ⟨List.mem_of_getElem? (i := 484) (by decide +kernel), by decide +kernel⟩
theorem tw_cod_X0_farFromPuts : Cond.code yX0_farFromPuts cX0_farFromPuts 3 (some .int) ∈ TW := List.mem_filter.mpr ⟨List.mem_of_getElem? (i := 485) (by decide +kernel), by decide +kernel⟩
theorem tw_ml_X0_47 : Cond.methodLink RX0 47 yX0_movedBy ∈ TW := List.mem_filter.mpr ⟨List.mem_of_getElem? (i := 486) (by decide +kernel), by decide +kernel⟩
theorem tw_ml_X0_50 : Cond.methodLink RX0 50 Lib.Math.abs.name ∈ TW := List.mem_filter.mpr ⟨List.mem_of_getElem? (i := 487) (by decide +kernel), by decide +kernel⟩
theorem tw_kl_L_10 : Cond.classLink RL 10 RX5 ∈ TW := List.mem_filter.mpr ⟨List.mem_of_getElem? (i := 488) (by decide +kernel), by decide +kernel⟩
theorem tw_mk_X5 : Cond.instantiable RX5 22 ∈ TW := List.mem_filter.mpr ⟨List.mem_of_getElem? (i := 489) (by decide +kernel), by decide +kernel⟩
theorem tw_ml_L_12 : Cond.methodLink RL 12 yX5_init ∈ TW := List.mem_filter.mpr ⟨List.mem_of_getElem? (i := 490) (by decide +kernel), by decide +kernel⟩
theorem tw_ins_X5_init : Cond.instanceMethod yX5_init ∈ TW := List.mem_filter.mpr ⟨List.mem_of_getElem? (i := 491) (by decide +kernel), by decide +kernel⟩
theorem tw_cod_X5_init : Cond.code yX5_init cX5_init 1 none ∈ TW := List.mem_filter.mpr ⟨List.mem_of_getElem? (i := 492) (by decide +kernel), by decide +kernel⟩
theorem tw_ml_X5_1 : Cond.methodLink RX5 1 objectInit ∈ TW := List.mem_filter.mpr ⟨List.mem_of_getElem? (i := 493) (by decide +kernel), by decide +kernel⟩
theorem tw_fl_X5_61 : Cond.fieldLink RX5 61 "HullOffsetsModel" "stations" "I" ∈ TW := List.mem_filter.mpr ⟨List.mem_of_getElem? (i := 494) (by decide +kernel), by decide +kernel⟩
theorem tw_fl_X5_64 : Cond.fieldLink RX5 64 "HullOffsetsModel" "waters" "I" ∈ TW := List.mem_filter.mpr ⟨List.mem_of_getElem? (i := 495) (by decide +kernel), by decide +kernel⟩
theorem tw_fl_X5_7 : Cond.fieldLink RX5 7 "HullOffsetsModel" "bound" "I" ∈ TW := List.mem_filter.mpr ⟨List.mem_of_getElem? (i := 496) (by decide +kernel), by decide +kernel⟩
theorem tw_fl_X5_13 : Cond.fieldLink RX5 13 "HullOffsetsModel" "reach" "I" ∈ TW := List.mem_filter.mpr ⟨List.mem_of_getElem? (i := 497) (by decide +kernel), by decide +kernel⟩
theorem tw_fl_X5_16 : Cond.fieldLink RX5 16 "HullOffsetsModel" "longBy" "I" ∈ TW := List.mem_filter.mpr ⟨List.mem_of_getElem? (i := 498) (by decide +kernel), by decide +kernel⟩
theorem tw_fl_X5_19 : Cond.fieldLink RX5 19 "HullOffsetsModel" "highBy" "I" ∈ TW := List.mem_filter.mpr ⟨List.mem_of_getElem? (i := 499) (by decide +kernel), by decide +kernel⟩
theorem tw_fl_X5_22 : Cond.fieldLink RX5 22 "HullOffsetsModel" "offset" "[I" ∈ TW := List.mem_filter.mpr ⟨List.mem_of_getElem? (i := 500) (by decide +kernel), by decide +kernel⟩
theorem tw_fl_X5_26 : Cond.fieldLink RX5 26 "HullOffsetsModel" "put" "[I" ∈ TW := List.mem_filter.mpr ⟨List.mem_of_getElem? (i := 501) (by decide +kernel), by decide +kernel⟩
theorem tw_fl_X5_29 : Cond.fieldLink RX5 29 "HullOffsetsModel" "held" "[Z" ∈ TW := List.mem_filter.mpr ⟨List.mem_of_getElem? (i := 502) (by decide +kernel), by decide +kernel⟩
theorem tw_fl_X5_97 : Cond.fieldLink RX5 97 "HullOffsetsModel" "points" "I" ∈ TW := List.mem_filter.mpr ⟨List.mem_of_getElem? (i := 503) (by decide +kernel), by decide +kernel⟩
theorem tw_fl_X5_33 : Cond.fieldLink RX5 33 "HullOffsetsModel" "pointOf" "[I" ∈ TW := List.mem_filter.mpr ⟨List.mem_of_getElem? (i := 504) (by decide +kernel), by decide +kernel⟩
theorem tw_fl_X5_36 : Cond.fieldLink RX5 36 "HullOffsetsModel" "at" "[I" ∈ TW := List.mem_filter.mpr ⟨List.mem_of_getElem? (i := 505) (by decide +kernel), by decide +kernel⟩
theorem tw_fl_X5_39 : Cond.fieldLink RX5 39 "HullOffsetsModel" "need" "[I" ∈ TW := List.mem_filter.mpr ⟨List.mem_of_getElem? (i := 506) (by decide +kernel), by decide +kernel⟩
theorem tw_fl_X5_42 : Cond.fieldLink RX5 42 "HullOffsetsModel" "move" "[I" ∈ TW := List.mem_filter.mpr ⟨List.mem_of_getElem? (i := 507) (by decide +kernel), by decide +kernel⟩
theorem tw_fl_X5_142 : Cond.fieldLink RX5 142 "HullOffsetsModel" "together" "I" ∈ TW := List.mem_filter.mpr ⟨List.mem_of_getElem? (i := 508) (by decide +kernel), by decide +kernel⟩
theorem tw_fl_X5_45 : Cond.fieldLink RX5 45 "HullOffsetsModel" "before" "[I" ∈ TW := List.mem_filter.mpr ⟨List.mem_of_getElem? (i := 509) (by decide +kernel), by decide +kernel⟩
theorem tw_fl_X5_48 : Cond.fieldLink RX5 48 "HullOffsetsModel" "row" "[J" ∈ TW := List.mem_filter.mpr ⟨List.mem_of_getElem? (i := 510) (by decide +kernel), by decide +kernel⟩
theorem tw_fl_X5_52 : Cond.fieldLink RX5 52 "HullOffsetsModel" "sums" "[J" ∈ TW := List.mem_filter.mpr ⟨List.mem_of_getElem? (i := 511) (by decide +kernel), by decide +kernel⟩
theorem tw_fl_X5_195 : Cond.fieldLink RX5 195 "HullOffsetsModel" "upper" "J" ∈ TW := List.mem_filter.mpr ⟨List.mem_of_getElem? (i := 512) (by decide +kernel), by decide +kernel⟩
theorem tw_fl_X5_191 : Cond.fieldLink RX5 191 "HullOffsetsModel" "lower" "J" ∈ TW := List.mem_filter.mpr ⟨List.mem_of_getElem? (i := 513) (by decide +kernel), by decide +kernel⟩
theorem tw_fl_X5_55 : Cond.fieldLink RX5 55 "HullOffsetsModel" "uppers" "[J" ∈ TW := List.mem_filter.mpr ⟨List.mem_of_getElem? (i := 514) (by decide +kernel), by decide +kernel⟩
theorem tw_fl_X5_58 : Cond.fieldLink RX5 58 "HullOffsetsModel" "lowers" "[J" ∈ TW := List.mem_filter.mpr ⟨List.mem_of_getElem? (i := 515) (by decide +kernel), by decide +kernel⟩
theorem tw_ml_L_17 : Cond.methodLink RL 17 yX5_hull ∈ TW := List.mem_filter.mpr ⟨List.mem_of_getElem? (i := 561) (by decide +kernel), by decide +kernel⟩
theorem tw_ins_X5_hull : Cond.instanceMethod yX5_hull ∈ TW := List.mem_filter.mpr ⟨List.mem_of_getElem? (i := 562) (by decide +kernel), by decide +kernel⟩
theorem tw_sel_X5_hull : Cond.selects RX5 yX5_hull yX5_hull ∈ TW := List.mem_filter.mpr ⟨List.mem_of_getElem? (i := 563) (by decide +kernel), by decide +kernel⟩
theorem tw_cod_X5_hull : Cond.code yX5_hull cX5_hull 4 (some .int) ∈ TW := List.mem_filter.mpr ⟨List.mem_of_getElem? (i := 564) (by decide +kernel), by decide +kernel⟩
theorem tw_cl_X5_73 : Cond.constantLong RX5 73 (i64 (5)) ∈ TW := List.mem_filter.mpr ⟨List.mem_of_getElem? (i := 565) (by decide +kernel), by decide +kernel⟩
theorem tw_cl_X5_75 : Cond.constantLong RX5 75 (i64 (9)) ∈ TW := List.mem_filter.mpr ⟨List.mem_of_getElem? (i := 566) (by decide +kernel), by decide +kernel⟩
theorem tw_ml_X5_67 : Cond.methodLink RX5 67 yX5_within ∈ TW := List.mem_filter.mpr ⟨List.mem_of_getElem? (i := 567) (by decide +kernel), by decide +kernel⟩
theorem tw_sta_X5_within : Cond.static yX5_within ∈ TW := List.mem_filter.mpr ⟨List.mem_of_getElem? (i := 568) (by decide +kernel), by decide +kernel⟩
theorem tw_cod_X5_within : Cond.code yX5_within cX5_within 6 (some .boolean) ∈ TW := List.mem_filter.mpr ⟨List.mem_of_getElem? (i := 569) (by decide +kernel), by decide +kernel⟩
theorem tw_cl_X5_77 : Cond.constantLong RX5 77 (i64 (4)) ∈ TW := List.mem_filter.mpr ⟨List.mem_of_getElem? (i := 570) (by decide +kernel), by decide +kernel⟩
theorem tw_cl_X5_79 : Cond.constantLong RX5 79 (i64 (7)) ∈ TW := List.mem_filter.mpr ⟨List.mem_of_getElem? (i := 571) (by decide +kernel), by decide +kernel⟩
theorem tw_ml_L_22 : Cond.methodLink RL 22 yX5_offset ∈ TW := List.mem_filter.mpr ⟨List.mem_of_getElem? (i := 572) (by decide +kernel), by decide +kernel⟩
theorem tw_ins_X5_offset : Cond.instanceMethod yX5_offset ∈ TW := List.mem_filter.mpr ⟨List.mem_of_getElem? (i := 573) (by decide +kernel), by decide +kernel⟩
theorem tw_sel_X5_offset : Cond.selects RX5 yX5_offset yX5_offset ∈ TW := List.mem_filter.mpr ⟨List.mem_of_getElem? (i := 574) (by decide +kernel), by decide +kernel⟩
theorem tw_cod_X5_offset : Cond.code yX5_offset cX5_offset 5 (some .int) ∈ TW := List.mem_filter.mpr ⟨List.mem_of_getElem? (i := 575) (by decide +kernel), by decide +kernel⟩
theorem tw_ml_X5_81 : Cond.methodLink RX5 81 yX5_isPoint ∈ TW := List.mem_filter.mpr ⟨List.mem_of_getElem? (i := 576) (by decide +kernel), by decide +kernel⟩
theorem tw_ins_X5_isPoint : Cond.instanceMethod yX5_isPoint ∈ TW := List.mem_filter.mpr ⟨List.mem_of_getElem? (i := 578) (by decide +kernel), by decide +kernel⟩
theorem tw_cod_X5_isPoint : Cond.code yX5_isPoint cX5_isPoint 3 (some .boolean) ∈ TW := List.mem_filter.mpr ⟨List.mem_of_getElem? (i := 579) (by decide +kernel), by decide +kernel⟩
theorem tw_ml_X5_85 : Cond.methodLink RX5 85 yX5_isOffset ∈ TW := List.mem_filter.mpr ⟨List.mem_of_getElem? (i := 580) (by decide +kernel), by decide +kernel⟩
theorem tw_sta_X5_isOffset : Cond.static yX5_isOffset ∈ TW := List.mem_filter.mpr ⟨List.mem_of_getElem? (i := 581) (by decide +kernel), by decide +kernel⟩
theorem tw_cod_X5_isOffset : Cond.code yX5_isOffset cX5_isOffset 1 (some .boolean) ∈ TW := List.mem_filter.mpr ⟨List.mem_of_getElem? (i := 582) (by decide +kernel), by decide +kernel⟩
theorem tw_cl_X5_71 : Cond.constantLong RX5 71 (i64 (999)) ∈ TW := List.mem_filter.mpr ⟨List.mem_of_getElem? (i := 583) (by decide +kernel), by decide +kernel⟩
theorem tw_ml_L_27 : Cond.methodLink RL 27 yX5_hold ∈ TW := List.mem_filter.mpr ⟨List.mem_of_getElem? (i := 584) (by decide +kernel), by decide +kernel⟩
theorem tw_ins_X5_hold : Cond.instanceMethod yX5_hold ∈ TW := List.mem_filter.mpr ⟨List.mem_of_getElem? (i := 585) (by decide +kernel), by decide +kernel⟩
theorem tw_sel_X5_hold : Cond.selects RX5 yX5_hold yX5_hold ∈ TW := List.mem_filter.mpr ⟨List.mem_of_getElem? (i := 586) (by decide +kernel), by decide +kernel⟩
theorem tw_cod_X5_hold : Cond.code yX5_hold cX5_hold 5 (some .int) ∈ TW := List.mem_filter.mpr ⟨List.mem_of_getElem? (i := 587) (by decide +kernel), by decide +kernel⟩
theorem tw_ml_L_31 : Cond.methodLink RL 31 yX5_setting ∈ TW := List.mem_filter.mpr ⟨List.mem_of_getElem? (i := 588) (by decide +kernel), by decide +kernel⟩
theorem tw_ins_X5_setting : Cond.instanceMethod yX5_setting ∈ TW := List.mem_filter.mpr ⟨List.mem_of_getElem? (i := 589) (by decide +kernel), by decide +kernel⟩
theorem tw_sel_X5_setting : Cond.selects RX5 yX5_setting yX5_setting ∈ TW := List.mem_filter.mpr ⟨List.mem_of_getElem? (i := 590) (by decide +kernel), by decide +kernel⟩
theorem tw_cod_X5_setting : Cond.code yX5_setting cX5_setting 4 (some .int) ∈ TW := List.mem_filter.mpr ⟨List.mem_of_getElem? (i := 591) (by decide +kernel), by decide +kernel⟩
theorem tw_cl_X5_89 : Cond.constantLong RX5 89 (i64 (3)) ∈ TW := List.mem_filter.mpr ⟨List.mem_of_getElem? (i := 592) (by decide +kernel), by decide +kernel⟩
theorem tw_cl_X5_91 : Cond.constantLong RX5 91 (i64 (99)) ∈ TW := List.mem_filter.mpr ⟨List.mem_of_getElem? (i := 593) (by decide +kernel), by decide +kernel⟩
theorem tw_ml_L_35 : Cond.methodLink RL 35 yX5_ofPoint ∈ TW := List.mem_filter.mpr ⟨List.mem_of_getElem? (i := 594) (by decide +kernel), by decide +kernel⟩
theorem tw_ins_X5_ofPoint : Cond.instanceMethod yX5_ofPoint ∈ TW := List.mem_filter.mpr ⟨List.mem_of_getElem? (i := 595) (by decide +kernel), by decide +kernel⟩
theorem tw_sel_X5_ofPoint : Cond.selects RX5 yX5_ofPoint yX5_ofPoint ∈ TW := List.mem_filter.mpr ⟨List.mem_of_getElem? (i := 596) (by decide +kernel), by decide +kernel⟩
theorem tw_cod_X5_ofPoint : Cond.code yX5_ofPoint cX5_ofPoint 5 (some .int) ∈ TW := List.mem_filter.mpr ⟨List.mem_of_getElem? (i := 597) (by decide +kernel), by decide +kernel⟩
theorem tw_ml_L_39 : Cond.methodLink RL 39 yX5_bend ∈ TW := List.mem_filter.mpr ⟨List.mem_of_getElem? (i := 598) (by decide +kernel), by decide +kernel⟩
theorem tw_ins_X5_bend : Cond.instanceMethod yX5_bend ∈ TW := List.mem_filter.mpr ⟨List.mem_of_getElem? (i := 599) (by decide +kernel), by decide +kernel⟩
theorem tw_sel_X5_bend : Cond.selects RX5 yX5_bend yX5_bend ∈ TW := List.mem_filter.mpr ⟨List.mem_of_getElem? (i := 600) (by decide +kernel), by decide +kernel⟩
theorem tw_cod_X5_bend : Cond.code yX5_bend cX5_bend 5 (some .int) ∈ TW := List.mem_filter.mpr ⟨List.mem_of_getElem? (i := 601) (by decide +kernel), by decide +kernel⟩
theorem tw_ml_X5_113 : Cond.methodLink RX5 113 yX5_barred ∈ TW := List.mem_filter.mpr ⟨List.mem_of_getElem? (i := 602) (by decide +kernel), by decide +kernel⟩
theorem tw_ins_X5_barred : Cond.instanceMethod yX5_barred ∈ TW := List.mem_filter.mpr ⟨List.mem_of_getElem? (i := 604) (by decide +kernel), by decide +kernel⟩
theorem tw_cod_X5_barred : Cond.code yX5_barred cX5_barred 5 (some .int) ∈ TW := List.mem_filter.mpr ⟨List.mem_of_getElem? (i := 605) (by decide +kernel), by decide +kernel⟩
theorem tw_ml_X5_103 : Cond.methodLink RX5 103 yX5_isView ∈ TW := List.mem_filter.mpr ⟨List.mem_of_getElem? (i := 606) (by decide +kernel), by decide +kernel⟩
theorem tw_sta_X5_isView : Cond.static yX5_isView ∈ TW := List.mem_filter.mpr ⟨List.mem_of_getElem? (i := 607) (by decide +kernel), by decide +kernel⟩
theorem tw_cod_X5_isView : Cond.code yX5_isView cX5_isView 1 (some .boolean) ∈ TW := List.mem_filter.mpr ⟨List.mem_of_getElem? (i := 608) (by decide +kernel), by decide +kernel⟩
theorem tw_ml_X5_106 : Cond.methodLink RX5 106 yX5_isLine ∈ TW := List.mem_filter.mpr ⟨List.mem_of_getElem? (i := 609) (by decide +kernel), by decide +kernel⟩
theorem tw_ins_X5_isLine : Cond.instanceMethod yX5_isLine ∈ TW := List.mem_filter.mpr ⟨List.mem_of_getElem? (i := 611) (by decide +kernel), by decide +kernel⟩
theorem tw_cod_X5_isLine : Cond.code yX5_isLine cX5_isLine 3 (some .boolean) ∈ TW := List.mem_filter.mpr ⟨List.mem_of_getElem? (i := 612) (by decide +kernel), by decide +kernel⟩
theorem tw_ml_X5_93 : Cond.methodLink RX5 93 yX5_linesOf ∈ TW := List.mem_filter.mpr ⟨List.mem_of_getElem? (i := 613) (by decide +kernel), by decide +kernel⟩
theorem tw_ins_X5_linesOf : Cond.instanceMethod yX5_linesOf ∈ TW := List.mem_filter.mpr ⟨List.mem_of_getElem? (i := 615) (by decide +kernel), by decide +kernel⟩
theorem tw_cod_X5_linesOf : Cond.code yX5_linesOf cX5_linesOf 2 (some .int) ∈ TW := List.mem_filter.mpr ⟨List.mem_of_getElem? (i := 616) (by decide +kernel), by decide +kernel⟩
theorem tw_ml_X5_109 : Cond.methodLink RX5 109 yX5_lays ∈ TW := List.mem_filter.mpr ⟨List.mem_of_getElem? (i := 617) (by decide +kernel), by decide +kernel⟩
theorem tw_ins_X5_lays : Cond.instanceMethod yX5_lays ∈ TW := List.mem_filter.mpr ⟨List.mem_of_getElem? (i := 619) (by decide +kernel), by decide +kernel⟩
theorem tw_cod_X5_lays : Cond.code yX5_lays cX5_lays 4 none ∈ TW := List.mem_filter.mpr ⟨List.mem_of_getElem? (i := 620) (by decide +kernel), by decide +kernel⟩
theorem tw_ml_X5_100 : Cond.methodLink RX5 100 yX5_bendAt ∈ TW := List.mem_filter.mpr ⟨List.mem_of_getElem? (i := 621) (by decide +kernel), by decide +kernel⟩
theorem tw_ins_X5_bendAt : Cond.instanceMethod yX5_bendAt ∈ TW := List.mem_filter.mpr ⟨List.mem_of_getElem? (i := 623) (by decide +kernel), by decide +kernel⟩
theorem tw_cod_X5_bendAt : Cond.code yX5_bendAt cX5_bendAt 2 (some .int) ∈ TW := List.mem_filter.mpr ⟨List.mem_of_getElem? (i := 624) (by decide +kernel), by decide +kernel⟩
theorem tw_ml_L_43 : Cond.methodLink RL 43 yX5_jump ∈ TW := List.mem_filter.mpr ⟨List.mem_of_getElem? (i := 625) (by decide +kernel), by decide +kernel⟩
theorem tw_ins_X5_jump : Cond.instanceMethod yX5_jump ∈ TW := List.mem_filter.mpr ⟨List.mem_of_getElem? (i := 626) (by decide +kernel), by decide +kernel⟩
theorem tw_sel_X5_jump : Cond.selects RX5 yX5_jump yX5_jump ∈ TW := List.mem_filter.mpr ⟨List.mem_of_getElem? (i := 627) (by decide +kernel), by decide +kernel⟩
theorem tw_cod_X5_jump : Cond.code yX5_jump cX5_jump 5 (some .int) ∈ TW := List.mem_filter.mpr ⟨List.mem_of_getElem? (i := 628) (by decide +kernel), by decide +kernel⟩
theorem tw_ml_X5_117 : Cond.methodLink RX5 117 yX5_jumpAt ∈ TW := List.mem_filter.mpr ⟨List.mem_of_getElem? (i := 629) (by decide +kernel), by decide +kernel⟩
theorem tw_ins_X5_jumpAt : Cond.instanceMethod yX5_jumpAt ∈ TW := List.mem_filter.mpr ⟨List.mem_of_getElem? (i := 631) (by decide +kernel), by decide +kernel⟩
theorem tw_cod_X5_jumpAt : Cond.code yX5_jumpAt cX5_jumpAt 2 (some .int) ∈ TW := List.mem_filter.mpr ⟨List.mem_of_getElem? (i := 632) (by decide +kernel), by decide +kernel⟩
theorem tw_ml_L_48 : Cond.methodLink RL 48 yX5_roughest ∈ TW := List.mem_filter.mpr ⟨List.mem_of_getElem? (i := 633) (by decide +kernel), by decide +kernel⟩
theorem tw_ins_X5_roughest : Cond.instanceMethod yX5_roughest ∈ TW := List.mem_filter.mpr ⟨List.mem_of_getElem? (i := 634) (by decide +kernel), by decide +kernel⟩
theorem tw_sel_X5_roughest : Cond.selects RX5 yX5_roughest yX5_roughest ∈ TW := List.mem_filter.mpr ⟨List.mem_of_getElem? (i := 635) (by decide +kernel), by decide +kernel⟩
theorem tw_cod_X5_roughest : Cond.code yX5_roughest cX5_roughest 8 (some .int) ∈ TW := List.mem_filter.mpr ⟨List.mem_of_getElem? (i := 636) (by decide +kernel), by decide +kernel⟩
theorem tw_ml_X5_120 : Cond.methodLink RX5 120 yX5_far ∈ TW := List.mem_filter.mpr ⟨List.mem_of_getElem? (i := 637) (by decide +kernel), by decide +kernel⟩
theorem tw_sta_X5_far : Cond.static yX5_far ∈ TW := List.mem_filter.mpr ⟨List.mem_of_getElem? (i := 638) (by decide +kernel), by decide +kernel⟩
theorem tw_cod_X5_far : Cond.code yX5_far cX5_far 1 (some .int) ∈ TW := List.mem_filter.mpr ⟨List.mem_of_getElem? (i := 639) (by decide +kernel), by decide +kernel⟩
theorem tw_ml_L_52 : Cond.methodLink RL 52 yX5_rough ∈ TW := List.mem_filter.mpr ⟨List.mem_of_getElem? (i := 640) (by decide +kernel), by decide +kernel⟩
theorem tw_ins_X5_rough : Cond.instanceMethod yX5_rough ∈ TW := List.mem_filter.mpr ⟨List.mem_of_getElem? (i := 641) (by decide +kernel), by decide +kernel⟩
theorem tw_sel_X5_rough : Cond.selects RX5 yX5_rough yX5_rough ∈ TW := List.mem_filter.mpr ⟨List.mem_of_getElem? (i := 642) (by decide +kernel), by decide +kernel⟩
theorem tw_cod_X5_rough : Cond.code yX5_rough cX5_rough 3 (some .int) ∈ TW := List.mem_filter.mpr ⟨List.mem_of_getElem? (i := 643) (by decide +kernel), by decide +kernel⟩
theorem tw_ml_X5_123 : Cond.methodLink RX5 123 yX5_roughNow ∈ TW := List.mem_filter.mpr ⟨List.mem_of_getElem? (i := 644) (by decide +kernel), by decide +kernel⟩
theorem tw_ins_X5_roughNow : Cond.instanceMethod yX5_roughNow ∈ TW := List.mem_filter.mpr ⟨List.mem_of_getElem? (i := 646) (by decide +kernel), by decide +kernel⟩
theorem tw_cod_X5_roughNow : Cond.code yX5_roughNow cX5_roughNow 3 (some .int) ∈ TW := List.mem_filter.mpr ⟨List.mem_of_getElem? (i := 647) (by decide +kernel), by decide +kernel⟩
theorem tw_ml_L_56 : Cond.methodLink RL 56 yX5_least ∈ TW := List.mem_filter.mpr ⟨List.mem_of_getElem? (i := 648) (by decide +kernel), by decide +kernel⟩
theorem tw_ins_X5_least : Cond.instanceMethod yX5_least ∈ TW := List.mem_filter.mpr ⟨List.mem_of_getElem? (i := 649) (by decide +kernel), by decide +kernel⟩
theorem tw_sel_X5_least : Cond.selects RX5 yX5_least yX5_least ∈ TW := List.mem_filter.mpr ⟨List.mem_of_getElem? (i := 650) (by decide +kernel), by decide +kernel⟩
theorem tw_cod_X5_least : Cond.code yX5_least cX5_least 4 (some .int) ∈ TW := List.mem_filter.mpr ⟨List.mem_of_getElem? (i := 651) (by decide +kernel), by decide +kernel⟩
theorem tw_cl_X5_155 : Cond.constantLong RX5 155 (i64 (-1)) ∈ TW := List.mem_filter.mpr ⟨List.mem_of_getElem? (i := 652) (by decide +kernel), by decide +kernel⟩
theorem tw_ml_X5_157 : Cond.methodLink RX5 157 yX5_findLeast ∈ TW := List.mem_filter.mpr ⟨List.mem_of_getElem? (i := 653) (by decide +kernel), by decide +kernel⟩
theorem tw_ins_X5_findLeast : Cond.instanceMethod yX5_findLeast ∈ TW := List.mem_filter.mpr ⟨List.mem_of_getElem? (i := 655) (by decide +kernel), by decide +kernel⟩
theorem tw_cod_X5_findLeast : Cond.code yX5_findLeast cX5_findLeast 2 (some .boolean) ∈ TW := List.mem_filter.mpr ⟨List.mem_of_getElem? (i := 656) (by decide +kernel), by decide +kernel⟩
theorem tw_ml_X5_145 : Cond.methodLink RX5 145 yX5_findNeeds ∈ TW := List.mem_filter.mpr ⟨List.mem_of_getElem? (i := 657) (by decide +kernel), by decide +kernel⟩
theorem tw_ins_X5_findNeeds : Cond.instanceMethod yX5_findNeeds ∈ TW := List.mem_filter.mpr ⟨List.mem_of_getElem? (i := 659) (by decide +kernel), by decide +kernel⟩
theorem tw_cod_X5_findNeeds : Cond.code yX5_findNeeds cX5_findNeeds 7 none ∈ TW := List.mem_filter.mpr ⟨List.mem_of_getElem? (i := 660) (by decide +kernel), by decide +kernel⟩
theorem tw_ml_X5_128 : Cond.methodLink RX5 128 yX5_may ∈ TW := List.mem_filter.mpr ⟨List.mem_of_getElem? (i := 661) (by decide +kernel), by decide +kernel⟩
theorem tw_ins_X5_may : Cond.instanceMethod yX5_may ∈ TW := List.mem_filter.mpr ⟨List.mem_of_getElem? (i := 663) (by decide +kernel), by decide +kernel⟩
theorem tw_cod_X5_may : Cond.code yX5_may cX5_may 3 (some .boolean) ∈ TW := List.mem_filter.mpr ⟨List.mem_of_getElem? (i := 664) (by decide +kernel), by decide +kernel⟩
theorem tw_ci_X5_127 : Cond.constant RX5 127 (i32 (1000000)) ∈ TW := List.mem_filter.mpr ⟨List.mem_of_getElem? (i := 665) (by decide +kernel), by decide +kernel⟩
theorem tw_ml_X5_139 : Cond.methodLink RX5 139 yX5_needFrom ∈ TW := List.mem_filter.mpr ⟨List.mem_of_getElem? (i := 666) (by decide +kernel), by decide +kernel⟩
theorem tw_ins_X5_needFrom : Cond.instanceMethod yX5_needFrom ∈ TW := List.mem_filter.mpr ⟨List.mem_of_getElem? (i := 668) (by decide +kernel), by decide +kernel⟩
theorem tw_cod_X5_needFrom : Cond.code yX5_needFrom cX5_needFrom 8 (some .int) ∈ TW := List.mem_filter.mpr ⟨List.mem_of_getElem? (i := 669) (by decide +kernel), by decide +kernel⟩
theorem tw_ml_X5_131 : Cond.methodLink RX5 131 yX5_isFair ∈ TW := List.mem_filter.mpr ⟨List.mem_of_getElem? (i := 670) (by decide +kernel), by decide +kernel⟩
theorem tw_ins_X5_isFair : Cond.instanceMethod yX5_isFair ∈ TW := List.mem_filter.mpr ⟨List.mem_of_getElem? (i := 672) (by decide +kernel), by decide +kernel⟩
theorem tw_cod_X5_isFair : Cond.code yX5_isFair cX5_isFair 7 (some .boolean) ∈ TW := List.mem_filter.mpr ⟨List.mem_of_getElem? (i := 673) (by decide +kernel), by decide +kernel⟩
theorem tw_ml_X5_135 : Cond.methodLink RX5 135 yX5_triple ∈ TW := List.mem_filter.mpr ⟨List.mem_of_getElem? (i := 674) (by decide +kernel), by decide +kernel⟩
theorem tw_sta_X5_triple : Cond.static yX5_triple ∈ TW := List.mem_filter.mpr ⟨List.mem_of_getElem? (i := 675) (by decide +kernel), by decide +kernel⟩
theorem tw_cod_X5_triple : Cond.code yX5_triple cX5_triple 3 (some .int) ∈ TW := List.mem_filter.mpr ⟨List.mem_of_getElem? (i := 676) (by decide +kernel), by decide +kernel⟩
theorem tw_ml_X5_148 : Cond.methodLink RX5 148 yX5_begins ∈ TW := List.mem_filter.mpr ⟨List.mem_of_getElem? (i := 677) (by decide +kernel), by decide +kernel⟩
theorem tw_ins_X5_begins : Cond.instanceMethod yX5_begins ∈ TW := List.mem_filter.mpr ⟨List.mem_of_getElem? (i := 679) (by decide +kernel), by decide +kernel⟩
theorem tw_cod_X5_begins : Cond.code yX5_begins cX5_begins 5 (some .boolean) ∈ TW := List.mem_filter.mpr ⟨List.mem_of_getElem? (i := 680) (by decide +kernel), by decide +kernel⟩
theorem tw_ml_X5_152 : Cond.methodLink RX5 152 yX5_nextMove ∈ TW := List.mem_filter.mpr ⟨List.mem_of_getElem? (i := 681) (by decide +kernel), by decide +kernel⟩
theorem tw_ins_X5_nextMove : Cond.instanceMethod yX5_nextMove ∈ TW := List.mem_filter.mpr ⟨List.mem_of_getElem? (i := 683) (by decide +kernel), by decide +kernel⟩
theorem tw_cod_X5_nextMove : Cond.code yX5_nextMove cX5_nextMove 4 (some .int) ∈ TW := List.mem_filter.mpr ⟨List.mem_of_getElem? (i := 684) (by decide +kernel), by decide +kernel⟩
theorem tw_ml_L_60 : Cond.methodLink RL 60 yX5_fair ∈ TW := List.mem_filter.mpr ⟨List.mem_of_getElem? (i := 685) (by decide +kernel), by decide +kernel⟩
theorem tw_ins_X5_fair : Cond.instanceMethod yX5_fair ∈ TW := List.mem_filter.mpr ⟨List.mem_of_getElem? (i := 686) (by decide +kernel), by decide +kernel⟩
theorem tw_sel_X5_fair : Cond.selects RX5 yX5_fair yX5_fair ∈ TW := List.mem_filter.mpr ⟨List.mem_of_getElem? (i := 687) (by decide +kernel), by decide +kernel⟩
theorem tw_cod_X5_fair : Cond.code yX5_fair cX5_fair 3 (some .int) ∈ TW := List.mem_filter.mpr ⟨List.mem_of_getElem? (i := 688) (by decide +kernel), by decide +kernel⟩
theorem tw_ml_X5_160 : Cond.methodLink RX5 160 yX5_fairs ∈ TW := List.mem_filter.mpr ⟨List.mem_of_getElem? (i := 689) (by decide +kernel), by decide +kernel⟩
theorem tw_ins_X5_fairs : Cond.instanceMethod yX5_fairs ∈ TW := List.mem_filter.mpr ⟨List.mem_of_getElem? (i := 691) (by decide +kernel), by decide +kernel⟩
theorem tw_cod_X5_fairs : Cond.code yX5_fairs cX5_fairs 4 (some .boolean) ∈ TW := List.mem_filter.mpr ⟨List.mem_of_getElem? (i := 692) (by decide +kernel), by decide +kernel⟩
theorem tw_ml_L_64 : Cond.methodLink RL 64 yX5_rounds ∈ TW := List.mem_filter.mpr ⟨List.mem_of_getElem? (i := 693) (by decide +kernel), by decide +kernel⟩
theorem tw_ins_X5_rounds : Cond.instanceMethod yX5_rounds ∈ TW := List.mem_filter.mpr ⟨List.mem_of_getElem? (i := 694) (by decide +kernel), by decide +kernel⟩
theorem tw_sel_X5_rounds : Cond.selects RX5 yX5_rounds yX5_rounds ∈ TW := List.mem_filter.mpr ⟨List.mem_of_getElem? (i := 695) (by decide +kernel), by decide +kernel⟩
theorem tw_cod_X5_rounds : Cond.code yX5_rounds cX5_rounds 3 (some .int) ∈ TW := List.mem_filter.mpr ⟨List.mem_of_getElem? (i := 696) (by decide +kernel), by decide +kernel⟩
theorem tw_cl_X5_163 : Cond.constantLong RX5 163 (i64 (20)) ∈ TW := List.mem_filter.mpr ⟨List.mem_of_getElem? (i := 697) (by decide +kernel), by decide +kernel⟩
theorem tw_ml_X5_165 : Cond.methodLink RX5 165 yX5_round ∈ TW := List.mem_filter.mpr ⟨List.mem_of_getElem? (i := 698) (by decide +kernel), by decide +kernel⟩
theorem tw_ins_X5_round : Cond.instanceMethod yX5_round ∈ TW := List.mem_filter.mpr ⟨List.mem_of_getElem? (i := 700) (by decide +kernel), by decide +kernel⟩
theorem tw_cod_X5_round : Cond.code yX5_round cX5_round 3 (some .boolean) ∈ TW := List.mem_filter.mpr ⟨List.mem_of_getElem? (i := 701) (by decide +kernel), by decide +kernel⟩
theorem tw_ml_L_69 : Cond.methodLink RL 69 yX5_back ∈ TW := List.mem_filter.mpr ⟨List.mem_of_getElem? (i := 702) (by decide +kernel), by decide +kernel⟩
theorem tw_ins_X5_back : Cond.instanceMethod yX5_back ∈ TW := List.mem_filter.mpr ⟨List.mem_of_getElem? (i := 703) (by decide +kernel), by decide +kernel⟩
theorem tw_sel_X5_back : Cond.selects RX5 yX5_back yX5_back ∈ TW := List.mem_filter.mpr ⟨List.mem_of_getElem? (i := 704) (by decide +kernel), by decide +kernel⟩
theorem tw_cod_X5_back : Cond.code yX5_back cX5_back 3 (some .int) ∈ TW := List.mem_filter.mpr ⟨List.mem_of_getElem? (i := 705) (by decide +kernel), by decide +kernel⟩
theorem tw_ml_L_74 : Cond.methodLink RL 74 yX5_area ∈ TW := List.mem_filter.mpr ⟨List.mem_of_getElem? (i := 706) (by decide +kernel), by decide +kernel⟩
theorem tw_ins_X5_area : Cond.instanceMethod yX5_area ∈ TW := List.mem_filter.mpr ⟨List.mem_of_getElem? (i := 707) (by decide +kernel), by decide +kernel⟩
theorem tw_sel_X5_area : Cond.selects RX5 yX5_area yX5_area ∈ TW := List.mem_filter.mpr ⟨List.mem_of_getElem? (i := 708) (by decide +kernel), by decide +kernel⟩
theorem tw_cod_X5_area : Cond.code yX5_area cX5_area 4 (some .long) ∈ TW := List.mem_filter.mpr ⟨List.mem_of_getElem? (i := 709) (by decide +kernel), by decide +kernel⟩
theorem tw_ml_X5_174 : Cond.methodLink RX5 174 yX5_isWhich ∈ TW := List.mem_filter.mpr ⟨List.mem_of_getElem? (i := 710) (by decide +kernel), by decide +kernel⟩
theorem tw_sta_X5_isWhich : Cond.static yX5_isWhich ∈ TW := List.mem_filter.mpr ⟨List.mem_of_getElem? (i := 711) (by decide +kernel), by decide +kernel⟩
theorem tw_cod_X5_isWhich : Cond.code yX5_isWhich cX5_isWhich 1 (some .boolean) ∈ TW := List.mem_filter.mpr ⟨List.mem_of_getElem? (i := 712) (by decide +kernel), by decide +kernel⟩
theorem tw_cl_X5_177 : Cond.constantLong RX5 177 (i64 (-9223372036854775808)) ∈ TW := List.mem_filter.mpr ⟨List.mem_of_getElem? (i := 713) (by decide +kernel), by decide +kernel⟩
theorem tw_ml_X5_179 : Cond.methodLink RX5 179 yX5_sumOf ∈ TW := List.mem_filter.mpr ⟨List.mem_of_getElem? (i := 714) (by decide +kernel), by decide +kernel⟩
theorem tw_ins_X5_sumOf : Cond.instanceMethod yX5_sumOf ∈ TW := List.mem_filter.mpr ⟨List.mem_of_getElem? (i := 716) (by decide +kernel), by decide +kernel⟩
theorem tw_cod_X5_sumOf : Cond.code yX5_sumOf cX5_sumOf 4 (some .long) ∈ TW := List.mem_filter.mpr ⟨List.mem_of_getElem? (i := 717) (by decide +kernel), by decide +kernel⟩
theorem tw_ml_X5_170 : Cond.methodLink RX5 170 yX5_sixths ∈ TW := List.mem_filter.mpr ⟨List.mem_of_getElem? (i := 718) (by decide +kernel), by decide +kernel⟩
theorem tw_ins_X5_sixths : Cond.instanceMethod yX5_sixths ∈ TW := List.mem_filter.mpr ⟨List.mem_of_getElem? (i := 720) (by decide +kernel), by decide +kernel⟩
theorem tw_cod_X5_sixths : Cond.code yX5_sixths cX5_sixths 6 (some .long) ∈ TW := List.mem_filter.mpr ⟨List.mem_of_getElem? (i := 721) (by decide +kernel), by decide +kernel⟩
theorem tw_cl_X5_168 : Cond.constantLong RX5 168 (i64 (2)) ∈ TW := List.mem_filter.mpr ⟨List.mem_of_getElem? (i := 722) (by decide +kernel), by decide +kernel⟩
theorem tw_cl_X5_183 : Cond.constantLong RX5 183 (i64 (6)) ∈ TW := List.mem_filter.mpr ⟨List.mem_of_getElem? (i := 723) (by decide +kernel), by decide +kernel⟩
theorem tw_ml_X5_185 : Cond.methodLink RX5 185 yX5_told ∈ TW := List.mem_filter.mpr ⟨List.mem_of_getElem? (i := 724) (by decide +kernel), by decide +kernel⟩
theorem tw_sta_X5_told : Cond.static yX5_told ∈ TW := List.mem_filter.mpr ⟨List.mem_of_getElem? (i := 725) (by decide +kernel), by decide +kernel⟩
theorem tw_cod_X5_told : Cond.code yX5_told cX5_told 11 (some .long) ∈ TW := List.mem_filter.mpr ⟨List.mem_of_getElem? (i := 726) (by decide +kernel), by decide +kernel⟩
theorem tw_ml_L_78 : Cond.methodLink RL 78 yX5_centre ∈ TW := List.mem_filter.mpr ⟨List.mem_of_getElem? (i := 727) (by decide +kernel), by decide +kernel⟩
theorem tw_ins_X5_centre : Cond.instanceMethod yX5_centre ∈ TW := List.mem_filter.mpr ⟨List.mem_of_getElem? (i := 728) (by decide +kernel), by decide +kernel⟩
theorem tw_sel_X5_centre : Cond.selects RX5 yX5_centre yX5_centre ∈ TW := List.mem_filter.mpr ⟨List.mem_of_getElem? (i := 729) (by decide +kernel), by decide +kernel⟩
theorem tw_cod_X5_centre : Cond.code yX5_centre cX5_centre 7 (some .long) ∈ TW := List.mem_filter.mpr ⟨List.mem_of_getElem? (i := 730) (by decide +kernel), by decide +kernel⟩
theorem tw_ml_L_83 : Cond.methodLink RL 83 yX5_volume ∈ TW := List.mem_filter.mpr ⟨List.mem_of_getElem? (i := 731) (by decide +kernel), by decide +kernel⟩
theorem tw_ins_X5_volume : Cond.instanceMethod yX5_volume ∈ TW := List.mem_filter.mpr ⟨List.mem_of_getElem? (i := 732) (by decide +kernel), by decide +kernel⟩
theorem tw_sel_X5_volume : Cond.selects RX5 yX5_volume yX5_volume ∈ TW := List.mem_filter.mpr ⟨List.mem_of_getElem? (i := 733) (by decide +kernel), by decide +kernel⟩
theorem tw_cod_X5_volume : Cond.code yX5_volume cX5_volume 5 (some .long) ∈ TW := List.mem_filter.mpr ⟨List.mem_of_getElem? (i := 734) (by decide +kernel), by decide +kernel⟩
theorem tw_cl_X5_189 : Cond.constantLong RX5 189 (i64 (36)) ∈ TW := List.mem_filter.mpr ⟨List.mem_of_getElem? (i := 735) (by decide +kernel), by decide +kernel⟩
theorem tw_ml_L_87 : Cond.methodLink RL 87 yX5_height ∈ TW := List.mem_filter.mpr ⟨List.mem_of_getElem? (i := 736) (by decide +kernel), by decide +kernel⟩
theorem tw_ins_X5_height : Cond.instanceMethod yX5_height ∈ TW := List.mem_filter.mpr ⟨List.mem_of_getElem? (i := 737) (by decide +kernel), by decide +kernel⟩
theorem tw_sel_X5_height : Cond.selects RX5 yX5_height yX5_height ∈ TW := List.mem_filter.mpr ⟨List.mem_of_getElem? (i := 738) (by decide +kernel), by decide +kernel⟩
theorem tw_cod_X5_height : Cond.code yX5_height cX5_height 4 (some .long) ∈ TW := List.mem_filter.mpr ⟨List.mem_of_getElem? (i := 739) (by decide +kernel), by decide +kernel⟩
theorem tw_ml_X5_198 : Cond.methodLink RX5 198 yX5_isBreadth ∈ TW := List.mem_filter.mpr ⟨List.mem_of_getElem? (i := 740) (by decide +kernel), by decide +kernel⟩
theorem tw_sta_X5_isBreadth : Cond.static yX5_isBreadth ∈ TW := List.mem_filter.mpr ⟨List.mem_of_getElem? (i := 741) (by decide +kernel), by decide +kernel⟩
theorem tw_cod_X5_isBreadth : Cond.code yX5_isBreadth cX5_isBreadth 1 (some .boolean) ∈ TW := List.mem_filter.mpr ⟨List.mem_of_getElem? (i := 742) (by decide +kernel), by decide +kernel⟩
theorem tw_ml_X5_201 : Cond.methodLink RX5 201 yX5_findHeight ∈ TW := List.mem_filter.mpr ⟨List.mem_of_getElem? (i := 743) (by decide +kernel), by decide +kernel⟩
theorem tw_ins_X5_findHeight : Cond.instanceMethod yX5_findHeight ∈ TW := List.mem_filter.mpr ⟨List.mem_of_getElem? (i := 745) (by decide +kernel), by decide +kernel⟩
theorem tw_cod_X5_findHeight : Cond.code yX5_findHeight cX5_findHeight 6 (some .boolean) ∈ TW := List.mem_filter.mpr ⟨List.mem_of_getElem? (i := 746) (by decide +kernel), by decide +kernel⟩
theorem tw_ml_L_91 : Cond.methodLink RL 91 yX5_breaks ∈ TW := List.mem_filter.mpr ⟨List.mem_of_getElem? (i := 747) (by decide +kernel), by decide +kernel⟩
theorem tw_ins_X5_breaks : Cond.instanceMethod yX5_breaks ∈ TW := List.mem_filter.mpr ⟨List.mem_of_getElem? (i := 748) (by decide +kernel), by decide +kernel⟩
theorem tw_sel_X5_breaks : Cond.selects RX5 yX5_breaks yX5_breaks ∈ TW := List.mem_filter.mpr ⟨List.mem_of_getElem? (i := 749) (by decide +kernel), by decide +kernel⟩
theorem tw_cod_X5_breaks : Cond.code yX5_breaks cX5_breaks 2 (some .int) ∈ TW := List.mem_filter.mpr ⟨List.mem_of_getElem? (i := 750) (by decide +kernel), by decide +kernel⟩
theorem tw_ml_X5_211 : Cond.methodLink RX5 211 yX5_breaksAt ∈ TW := List.mem_filter.mpr ⟨List.mem_of_getElem? (i := 751) (by decide +kernel), by decide +kernel⟩
theorem tw_ins_X5_breaksAt : Cond.instanceMethod yX5_breaksAt ∈ TW := List.mem_filter.mpr ⟨List.mem_of_getElem? (i := 753) (by decide +kernel), by decide +kernel⟩
theorem tw_cod_X5_breaksAt : Cond.code yX5_breaksAt cX5_breaksAt 4 (some .int) ∈ TW := List.mem_filter.mpr ⟨List.mem_of_getElem? (i := 754) (by decide +kernel), by decide +kernel⟩
theorem tw_ml_X5_208 : Cond.methodLink RX5 208 yX5_isBreak ∈ TW := List.mem_filter.mpr ⟨List.mem_of_getElem? (i := 755) (by decide +kernel), by decide +kernel⟩
theorem tw_ins_X5_isBreak : Cond.instanceMethod yX5_isBreak ∈ TW := List.mem_filter.mpr ⟨List.mem_of_getElem? (i := 757) (by decide +kernel), by decide +kernel⟩
theorem tw_cod_X5_isBreak : Cond.code yX5_isBreak cX5_isBreak 9 (some .boolean) ∈ TW := List.mem_filter.mpr ⟨List.mem_of_getElem? (i := 758) (by decide +kernel), by decide +kernel⟩
theorem tw_cl_X5_204 : Cond.constantLong RX5 204 (i64 (-3)) ∈ TW := List.mem_filter.mpr ⟨List.mem_of_getElem? (i := 759) (by decide +kernel), by decide +kernel⟩
theorem tw_cl_X5_206 : Cond.constantLong RX5 206 (i64 (100)) ∈ TW := List.mem_filter.mpr ⟨List.mem_of_getElem? (i := 760) (by decide +kernel), by decide +kernel⟩
theorem tw_ml_L_95 : Cond.methodLink RL 95 yX5_worst ∈ TW := List.mem_filter.mpr ⟨List.mem_of_getElem? (i := 761) (by decide +kernel), by decide +kernel⟩
theorem tw_ins_X5_worst : Cond.instanceMethod yX5_worst ∈ TW := List.mem_filter.mpr ⟨List.mem_of_getElem? (i := 762) (by decide +kernel), by decide +kernel⟩
theorem tw_sel_X5_worst : Cond.selects RX5 yX5_worst yX5_worst ∈ TW := List.mem_filter.mpr ⟨List.mem_of_getElem? (i := 763) (by decide +kernel), by decide +kernel⟩
theorem tw_cod_X5_worst : Cond.code yX5_worst cX5_worst 5 (some .int) ∈ TW := List.mem_filter.mpr ⟨List.mem_of_getElem? (i := 764) (by decide +kernel), by decide +kernel⟩
theorem tw_ml_L_99 : Cond.methodLink RL 99 yX5_many ∈ TW := List.mem_filter.mpr ⟨List.mem_of_getElem? (i := 765) (by decide +kernel), by decide +kernel⟩
theorem tw_ins_X5_many : Cond.instanceMethod yX5_many ∈ TW := List.mem_filter.mpr ⟨List.mem_of_getElem? (i := 766) (by decide +kernel), by decide +kernel⟩
theorem tw_sel_X5_many : Cond.selects RX5 yX5_many yX5_many ∈ TW := List.mem_filter.mpr ⟨List.mem_of_getElem? (i := 767) (by decide +kernel), by decide +kernel⟩
theorem tw_cod_X5_many : Cond.code yX5_many cX5_many 2 (some .int) ∈ TW := List.mem_filter.mpr ⟨List.mem_of_getElem? (i := 768) (by decide +kernel), by decide +kernel⟩
theorem tw_ml_X5_214 : Cond.methodLink RX5 214 yX5_manyHeld ∈ TW := List.mem_filter.mpr ⟨List.mem_of_getElem? (i := 769) (by decide +kernel), by decide +kernel⟩
theorem tw_ins_X5_manyHeld : Cond.instanceMethod yX5_manyHeld ∈ TW := List.mem_filter.mpr ⟨List.mem_of_getElem? (i := 771) (by decide +kernel), by decide +kernel⟩
theorem tw_cod_X5_manyHeld : Cond.code yX5_manyHeld cX5_manyHeld 3 (some .int) ∈ TW := List.mem_filter.mpr ⟨List.mem_of_getElem? (i := 772) (by decide +kernel), by decide +kernel⟩
theorem tw_ml_X5_217 : Cond.methodLink RX5 217 yX5_manyRough ∈ TW := List.mem_filter.mpr ⟨List.mem_of_getElem? (i := 773) (by decide +kernel), by decide +kernel⟩
theorem tw_ins_X5_manyRough : Cond.instanceMethod yX5_manyRough ∈ TW := List.mem_filter.mpr ⟨List.mem_of_getElem? (i := 775) (by decide +kernel), by decide +kernel⟩
theorem tw_cod_X5_manyRough : Cond.code yX5_manyRough cX5_manyRough 4 (some .int) ∈ TW := List.mem_filter.mpr ⟨List.mem_of_getElem? (i := 776) (by decide +kernel), by decide +kernel⟩
theorem tw_ml_X5_220 : Cond.methodLink RX5 220 yX5_farOff ∈ TW := List.mem_filter.mpr ⟨List.mem_of_getElem? (i := 777) (by decide +kernel), by decide +kernel⟩
theorem tw_ins_X5_farOff : Cond.instanceMethod yX5_farOff ∈ TW := List.mem_filter.mpr ⟨List.mem_of_getElem? (i := 779) (by decide +kernel), by decide +kernel⟩
theorem tw_cod_X5_farOff : Cond.code yX5_farOff cX5_farOff 3 (some .int) ∈ TW := List.mem_filter.mpr ⟨List.mem_of_getElem? (i := 780) (by decide +kernel), by decide +kernel⟩
theorem in_X0 : ∀ w ∈ u_ws RX0 TX0 5, w ∈ TW := by
  intro w hw
  have e : u_ws RX0 TX0 5 = [99, 101, 103, 105, 107].filterMap (fun i => lw_tbl[i]?) := by decide +kernel
  have g : (u_ws RX0 TX0 5).all goodWord = true := by decide +kernel
  have g1 := List.all_eq_true.mp g w hw
  rw [e] at hw
  obtain ⟨i, -, hi⟩ := List.mem_filterMap.mp hw
  exact List.mem_filter.mpr ⟨List.mem_of_getElem? hi, g1⟩
theorem in_X1 : ∀ w ∈ u_ws RX1 TX1 2, w ∈ TW := by
  intro w hw
  have e : u_ws RX1 TX1 2 = [167, 169].filterMap (fun i => lw_tbl[i]?) := by decide +kernel
  have g : (u_ws RX1 TX1 2).all goodWord = true := by decide +kernel
  have g1 := List.all_eq_true.mp g w hw
  rw [e] at hw
  obtain ⟨i, -, hi⟩ := List.mem_filterMap.mp hw
  exact List.mem_filter.mpr ⟨List.mem_of_getElem? hi, g1⟩
theorem in_X2 : ∀ w ∈ u_ws RX2 TX2 7, w ∈ TW := by
  intro w hw
  have e : u_ws RX2 TX2 7 = [142, 144, 146, 148, 150, 152, 154].filterMap (fun i => lw_tbl[i]?) := by decide +kernel
  have g : (u_ws RX2 TX2 7).all goodWord = true := by decide +kernel
  have g1 := List.all_eq_true.mp g w hw
  rw [e] at hw
  obtain ⟨i, -, hi⟩ := List.mem_filterMap.mp hw
  exact List.mem_filter.mpr ⟨List.mem_of_getElem? hi, g1⟩
theorem in_X3 : ∀ w ∈ u_ws RX3 TX3 2, w ∈ TW := by
  intro w hw
  have e : u_ws RX3 TX3 2 = [124, 126].filterMap (fun i => lw_tbl[i]?) := by decide +kernel
  have g : (u_ws RX3 TX3 2).all goodWord = true := by decide +kernel
  have g1 := List.all_eq_true.mp g w hw
  rw [e] at hw
  obtain ⟨i, -, hi⟩ := List.mem_filterMap.mp hw
  exact List.mem_filter.mpr ⟨List.mem_of_getElem? hi, g1⟩
theorem in_X4 : ∀ w ∈ u_ws RX4 TX4 7, w ∈ TW := by
  intro w hw
  have e : u_ws RX4 TX4 7 = [193, 195, 197, 199, 201, 203, 205].filterMap (fun i => lw_tbl[i]?) := by decide +kernel
  have g : (u_ws RX4 TX4 7).all goodWord = true := by decide +kernel
  have g1 := List.all_eq_true.mp g w hw
  rw [e] at hw
  obtain ⟨i, -, hi⟩ := List.mem_filterMap.mp hw
  exact List.mem_filter.mpr ⟨List.mem_of_getElem? hi, g1⟩
theorem in_X5 : ∀ w ∈ u_ws RX5 TX5 22, w ∈ TW := by
  intro w hw
  have e : u_ws RX5 TX5 22 = [516, 518, 520, 522, 524, 526, 528, 530, 532, 534, 536, 538, 540, 542, 544, 546, 548, 550, 552, 554, 556, 558].filterMap (fun i => lw_tbl[i]?) := by decide +kernel
  have g : (u_ws RX5 TX5 22).all goodWord = true := by decide +kernel
  have g1 := List.all_eq_true.mp g w hw
  rw [e] at hw
  obtain ⟨i, -, hi⟩ := List.mem_filterMap.mp hw
  exact List.mem_filter.mpr ⟨List.mem_of_getElem? hi, g1⟩
def nwL : List Cond := [Cond.methodLinkNest RX4 13 yX0_init "HullOffsets", Cond.fieldLinkNest RX1 24 "HullOffsets$Grid" "offsets" "[I" "HullOffsets", Cond.fieldLinkNest RX4 86 "HullOffsets$Grid" "offsets" "[I" "HullOffsets", Cond.fieldLinkNest RX4 138 "HullOffsets$Grid" "puts" "[I" "HullOffsets", Cond.fieldLinkNest RX4 76 "HullOffsets$Grid" "held" "[Z" "HullOffsets", Cond.fieldLinkNest RX1 32 "HullOffsets$Grid" "stations" "I" "HullOffsets", Cond.fieldLinkNest RX4 159 "HullOffsets$Grid" "stations" "I" "HullOffsets", Cond.fieldLinkNest RX1 18 "HullOffsets$Grid" "lines" "I" "HullOffsets", Cond.fieldLinkNest RX4 184 "HullOffsets$Grid" "lines" "I" "HullOffsets", Cond.methodLinkNest RX4 20 yX3_init "HullOffsets", Cond.fieldLinkNest RX0 42 "HullOffsets$Line" "offsets" "[I" "HullOffsets", Cond.fieldLinkNest RX4 152 "HullOffsets$Line" "offsets" "[I" "HullOffsets", Cond.fieldLinkNest RX4 99 "HullOffsets$Line" "points" "I" "HullOffsets", Cond.fieldLinkNest RX0 37 "HullOffsets$Line" "points" "I" "HullOffsets", Cond.methodLinkNest RX4 27 yX2_init "HullOffsets", Cond.methodLinkNest RX4 34 yX1_init "HullOffsets", Cond.fieldLinkNest RX4 170 "HullOffsets$Heights" "upper" "[J" "HullOffsets", Cond.fieldLinkNest RX4 174 "HullOffsets$Heights" "lower" "[J" "HullOffsets", Cond.methodLinkNest RX4 57 yX0_renew "HullOffsets", Cond.methodLinkNest RX4 65 yX0_hasPoint "HullOffsets", Cond.methodLinkNest RX4 73 yX0_put "HullOffsets", Cond.methodLinkNest RX4 89 yX0_movedBy "HullOffsets", Cond.methodLinkNest RX4 109 yX0_linesOf "HullOffsets", Cond.methodLinkNest RX4 196 yX0_layOut "HullOffsets", Cond.methodLinkNest RX0 29 yX4_cellOf "HullOffsets", Cond.methodLinkNest RX4 103 yX3_bendAt "HullOffsets", Cond.methodLinkNest RX4 106 yX3_jumpAt "HullOffsets", Cond.methodLinkNest RX4 112 yX3_farthestJump "HullOffsets", Cond.methodLinkNest RX4 116 yX3_firstJumpThatFar "HullOffsets", Cond.methodLinkNest RX4 119 yX3_countJumpsBeyond "HullOffsets", Cond.methodLinkNest RX4 122 yX0_pointsOf "HullOffsets", Cond.methodLinkNest RX4 200 yX2_stay "HullOffsets", Cond.methodLinkNest RX4 203 yX0_cell "HullOffsets", Cond.methodLinkNest RX4 207 yX2_place "HullOffsets", Cond.methodLinkNest RX4 211 yX2_seek "HullOffsets", Cond.methodLinkNest RX4 128 yX2_moveOf "HullOffsets", Cond.methodLinkNest RX4 162 yX1_measure "HullOffsets", Cond.methodLinkNest RX1 28 yX4_cellOf "HullOffsets", Cond.methodLinkNest RX4 166 yX1_isThere "HullOffsets", Cond.methodLinkNest RX4 177 yX1_countBreaks "HullOffsets", Cond.methodLinkNest RX4 181 yX0_broadest "HullOffsets", Cond.methodLinkNest RX4 187 yX0_countHeld "HullOffsets", Cond.methodLinkNest RX4 193 yX0_farFromPuts "HullOffsets"]
theorem nwL_in : ∀ w ∈ nwL, w ∈ lw_tbl := by
  intro w hw
  have e : nwL = [82, 87, 88, 90, 92, 94, 95, 97, 98, 114, 119, 120, 122, 123, 131, 159, 164, 166, 182, 219, 226, 246, 258, 266, 278, 279, 287, 296, 307, 315, 323, 328, 332, 333, 341, 374, 433, 437, 438, 446, 465, 474, 482].filterMap (fun i => lw_tbl[i]?) := by decide +kernel
  rw [e] at hw
  obtain ⟨i, -, hi⟩ := List.mem_filterMap.mp hw
  exact List.mem_of_getElem? hi
def isNest : Cond → Bool
  | .fieldLinkNest _ _ _ _ _ _ => true
  | .methodLinkNest _ _ _ _ => true
  | _ => false
theorem nwL_kinds : ∀ w ∈ nwL, (∃ a i b n d h, w = Cond.fieldLinkNest a i b n d h) ∨ (∃ a i x h, w = Cond.methodLinkNest a i x h) := by
  intro w hw
  have g : nwL.all isNest = true := by decide +kernel
  have g1 := List.all_eq_true.mp g w hw
  cases w <;> first | (simp [isNest] at g1; done) | exact Or.inl ⟨_, _, _, _, _, _, rfl⟩ | exact Or.inr ⟨_, _, _, _, rfl⟩
theorem nw_ml_X4_13 : Cond.methodLinkNest RX4 13 yX0_init "HullOffsets" ∈ nwL := List.mem_of_getElem? (i := 0) (by decide +kernel)
theorem nw_fl_X1_24 : Cond.fieldLinkNest RX1 24 "HullOffsets$Grid" "offsets" "[I" "HullOffsets" ∈ nwL := List.mem_of_getElem? (i := 1) (by decide +kernel)
theorem nw_fl_X4_86 : Cond.fieldLinkNest RX4 86 "HullOffsets$Grid" "offsets" "[I" "HullOffsets" ∈ nwL := List.mem_of_getElem? (i := 2) (by decide +kernel)
theorem nw_fl_X4_138 : Cond.fieldLinkNest RX4 138 "HullOffsets$Grid" "puts" "[I" "HullOffsets" ∈ nwL := List.mem_of_getElem? (i := 3) (by decide +kernel)
theorem nw_fl_X4_76 : Cond.fieldLinkNest RX4 76 "HullOffsets$Grid" "held" "[Z" "HullOffsets" ∈ nwL := List.mem_of_getElem? (i := 4) (by decide +kernel)
theorem nw_fl_X1_32 : Cond.fieldLinkNest RX1 32 "HullOffsets$Grid" "stations" "I" "HullOffsets" ∈ nwL := List.mem_of_getElem? (i := 5) (by decide +kernel)
theorem nw_fl_X4_159 : Cond.fieldLinkNest RX4 159 "HullOffsets$Grid" "stations" "I" "HullOffsets" ∈ nwL := List.mem_of_getElem? (i := 6) (by decide +kernel)
theorem nw_fl_X1_18 : Cond.fieldLinkNest RX1 18 "HullOffsets$Grid" "lines" "I" "HullOffsets" ∈ nwL := List.mem_of_getElem? (i := 7) (by decide +kernel)
theorem nw_fl_X4_184 : Cond.fieldLinkNest RX4 184 "HullOffsets$Grid" "lines" "I" "HullOffsets" ∈ nwL := List.mem_of_getElem? (i := 8) (by decide +kernel)
theorem nw_ml_X4_20 : Cond.methodLinkNest RX4 20 yX3_init "HullOffsets" ∈ nwL := List.mem_of_getElem? (i := 9) (by decide +kernel)
theorem nw_fl_X0_42 : Cond.fieldLinkNest RX0 42 "HullOffsets$Line" "offsets" "[I" "HullOffsets" ∈ nwL := List.mem_of_getElem? (i := 10) (by decide +kernel)
theorem nw_fl_X4_152 : Cond.fieldLinkNest RX4 152 "HullOffsets$Line" "offsets" "[I" "HullOffsets" ∈ nwL := List.mem_of_getElem? (i := 11) (by decide +kernel)
theorem nw_fl_X4_99 : Cond.fieldLinkNest RX4 99 "HullOffsets$Line" "points" "I" "HullOffsets" ∈ nwL := List.mem_of_getElem? (i := 12) (by decide +kernel)
theorem nw_fl_X0_37 : Cond.fieldLinkNest RX0 37 "HullOffsets$Line" "points" "I" "HullOffsets" ∈ nwL := List.mem_of_getElem? (i := 13) (by decide +kernel)
theorem nw_ml_X4_27 : Cond.methodLinkNest RX4 27 yX2_init "HullOffsets" ∈ nwL := List.mem_of_getElem? (i := 14) (by decide +kernel)
theorem nw_ml_X4_34 : Cond.methodLinkNest RX4 34 yX1_init "HullOffsets" ∈ nwL := List.mem_of_getElem? (i := 15) (by decide +kernel)
theorem nw_fl_X4_170 : Cond.fieldLinkNest RX4 170 "HullOffsets$Heights" "upper" "[J" "HullOffsets" ∈ nwL := List.mem_of_getElem? (i := 16) (by decide +kernel)
theorem nw_fl_X4_174 : Cond.fieldLinkNest RX4 174 "HullOffsets$Heights" "lower" "[J" "HullOffsets" ∈ nwL := List.mem_of_getElem? (i := 17) (by decide +kernel)
theorem nw_ml_X4_57 : Cond.methodLinkNest RX4 57 yX0_renew "HullOffsets" ∈ nwL := List.mem_of_getElem? (i := 18) (by decide +kernel)
theorem nw_ml_X4_65 : Cond.methodLinkNest RX4 65 yX0_hasPoint "HullOffsets" ∈ nwL := List.mem_of_getElem? (i := 19) (by decide +kernel)
theorem nw_ml_X4_73 : Cond.methodLinkNest RX4 73 yX0_put "HullOffsets" ∈ nwL := List.mem_of_getElem? (i := 20) (by decide +kernel)
theorem nw_ml_X4_89 : Cond.methodLinkNest RX4 89 yX0_movedBy "HullOffsets" ∈ nwL := List.mem_of_getElem? (i := 21) (by decide +kernel)
theorem nw_ml_X4_109 : Cond.methodLinkNest RX4 109 yX0_linesOf "HullOffsets" ∈ nwL := List.mem_of_getElem? (i := 22) (by decide +kernel)
theorem nw_ml_X4_196 : Cond.methodLinkNest RX4 196 yX0_layOut "HullOffsets" ∈ nwL := List.mem_of_getElem? (i := 23) (by decide +kernel)
theorem nw_ml_X0_29 : Cond.methodLinkNest RX0 29 yX4_cellOf "HullOffsets" ∈ nwL := List.mem_of_getElem? (i := 24) (by decide +kernel)
theorem nw_ml_X4_103 : Cond.methodLinkNest RX4 103 yX3_bendAt "HullOffsets" ∈ nwL := List.mem_of_getElem? (i := 25) (by decide +kernel)
theorem nw_ml_X4_106 : Cond.methodLinkNest RX4 106 yX3_jumpAt "HullOffsets" ∈ nwL := List.mem_of_getElem? (i := 26) (by decide +kernel)
theorem nw_ml_X4_112 : Cond.methodLinkNest RX4 112 yX3_farthestJump "HullOffsets" ∈ nwL := List.mem_of_getElem? (i := 27) (by decide +kernel)
theorem nw_ml_X4_116 : Cond.methodLinkNest RX4 116 yX3_firstJumpThatFar "HullOffsets" ∈ nwL := List.mem_of_getElem? (i := 28) (by decide +kernel)
theorem nw_ml_X4_119 : Cond.methodLinkNest RX4 119 yX3_countJumpsBeyond "HullOffsets" ∈ nwL := List.mem_of_getElem? (i := 29) (by decide +kernel)
theorem nw_ml_X4_122 : Cond.methodLinkNest RX4 122 yX0_pointsOf "HullOffsets" ∈ nwL := List.mem_of_getElem? (i := 30) (by decide +kernel)
theorem nw_ml_X4_200 : Cond.methodLinkNest RX4 200 yX2_stay "HullOffsets" ∈ nwL := List.mem_of_getElem? (i := 31) (by decide +kernel)
theorem nw_ml_X4_203 : Cond.methodLinkNest RX4 203 yX0_cell "HullOffsets" ∈ nwL := List.mem_of_getElem? (i := 32) (by decide +kernel)
theorem nw_ml_X4_207 : Cond.methodLinkNest RX4 207 yX2_place "HullOffsets" ∈ nwL := List.mem_of_getElem? (i := 33) (by decide +kernel)
theorem nw_ml_X4_211 : Cond.methodLinkNest RX4 211 yX2_seek "HullOffsets" ∈ nwL := List.mem_of_getElem? (i := 34) (by decide +kernel)
theorem nw_ml_X4_128 : Cond.methodLinkNest RX4 128 yX2_moveOf "HullOffsets" ∈ nwL := List.mem_of_getElem? (i := 35) (by decide +kernel)
theorem nw_ml_X4_162 : Cond.methodLinkNest RX4 162 yX1_measure "HullOffsets" ∈ nwL := List.mem_of_getElem? (i := 36) (by decide +kernel)
theorem nw_ml_X1_28 : Cond.methodLinkNest RX1 28 yX4_cellOf "HullOffsets" ∈ nwL := List.mem_of_getElem? (i := 37) (by decide +kernel)
theorem nw_ml_X4_166 : Cond.methodLinkNest RX4 166 yX1_isThere "HullOffsets" ∈ nwL := List.mem_of_getElem? (i := 38) (by decide +kernel)
theorem nw_ml_X4_177 : Cond.methodLinkNest RX4 177 yX1_countBreaks "HullOffsets" ∈ nwL := List.mem_of_getElem? (i := 39) (by decide +kernel)
theorem nw_ml_X4_181 : Cond.methodLinkNest RX4 181 yX0_broadest "HullOffsets" ∈ nwL := List.mem_of_getElem? (i := 40) (by decide +kernel)
theorem nw_ml_X4_187 : Cond.methodLinkNest RX4 187 yX0_countHeld "HullOffsets" ∈ nwL := List.mem_of_getElem? (i := 41) (by decide +kernel)
theorem nw_ml_X4_193 : Cond.methodLinkNest RX4 193 yX0_farFromPuts "HullOffsets" ∈ nwL := List.mem_of_getElem? (i := 42) (by decide +kernel)
theorem tw_max_static : Cond.static Lib.Math.max.name ∈ TW := tw_sta_Math_max
theorem tw_min_static : Cond.static Lib.Math.min.name ∈ TW := tw_sta_Math_min
theorem tw_abs_static : Cond.static Lib.Math.abs.name ∈ TW := tw_sta_Math_abs
theorem tw_absL_static : Cond.static Lib.MathLoose.abs_long.x ∈ TW := tw_sta_Math_absL
theorem tw_max_code : Cond.code Lib.Math.max.name Lib.Math.max.code 2 (some .int) ∈ TW := tw_cod_Math_max
theorem tw_min_code : Cond.code Lib.Math.min.name Lib.Math.min.code 2 (some .int) ∈ TW := tw_cod_Math_min
theorem tw_abs_code : Cond.code Lib.Math.abs.name Lib.Math.abs.code 1 (some .int) ∈ TW := tw_cod_Math_abs
theorem tw_absL_code : Cond.code Lib.MathLoose.abs_long.x Lib.MathLoose.abs_long.code 2 (some .long) ∈ TW := tw_cod_Math_absL
theorem tw_math_init : Cond.initialized "java/lang/Math" ∈ TW := tw_ini_java_lang_Math
theorem tw_sys_init : Cond.initialized "java/lang/System" ∈ TW := tw_ini_java_lang_System
theorem tw_copy_static : Cond.static arraycopyName ∈ TW := tw_sta_System_arraycopy
theorem tw_copy_native : Cond.native arraycopyName ∈ TW := tw_nat_System_arraycopy
end
section
/-! THE PURE STORE: cell number → place → number. Cells 0 .. 31 are the world's (objects and arrays), numbers from 100 on are the objects' own numbers (place 0). -/
abbrev Sto : Type := Nat → Nat → Int
def up (σ : Sto) (k i : Nat) (v : Int) : Sto := fun k' i' => if k' = k then (if i' = i then v else σ k' i') else σ k' i'
abbrev Ctx : Type := va_G × (Nat → Nat) × ClassId × ClassId × ClassId × Nat × Nat
abbrev kA (K : Ctx) : Nat → Nat := K.2.1
abbrev kI (K : Ctx) : ClassId := K.2.2.1
abbrev kJ (K : Ctx) : ClassId := K.2.2.2.1
abbrev kZ (K : Ctx) : ClassId := K.2.2.2.2.1
abbrev kLow (K : Ctx) : Nat := K.2.2.2.2.2.1
abbrev kTop (K : Ctx) : Nat := K.2.2.2.2.2.2
abbrev tysK (K : Ctx) : List (ClassId × FieldType) := [(kI K, .int), (kJ K, .long), (kZ K, .boolean)]
/-- kind (0 ints, 1 longs, 2 booleans, 3 an object), length or class, an object's fields: (0, cell) a reference, (1, n) an int, (2, n) a long -/
def sh : Nat → Nat × Nat × List (Nat × Nat)
  | 0 => (3, 4, [(0, 1), (0, 2), (0, 3), (0, 4), (0, 5), (0, 6), (0, 7)])
  | 1 => (3, 0, [(0, 8), (0, 9), (0, 10), (1, 100), (1, 101)])
  | 2 => (3, 3, [(0, 11), (1, 102)])
  | 3 => (3, 2, [(0, 12), (0, 13), (0, 14), (0, 15), (0, 16), (1, 103), (1, 104)])
  | 4 => (3, 1, [(0, 17), (0, 18)])
  | 5 => (0, 4, [])
  | 6 => (0, 63, [])
  | 7 => (0, 9, [])
  | 8 => (0, 63, [])
  | 9 => (0, 63, [])
  | 10 => (2, 63, [])
  | 11 => (0, 9, [])
  | 12 => (0, 12, [])
  | 13 => (0, 12, [])
  | 14 => (0, 12, [])
  | 15 => (0, 12, [])
  | 16 => (0, 3430, [])
  | 17 => (1, 9, [])
  | 18 => (1, 9, [])
  | 19 => (3, 5, [(1, 110), (1, 111), (1, 112), (1, 113), (1, 114), (1, 115), (0, 20), (0, 21), (0, 22), (1, 116), (0, 23), (0, 24), (0, 25), (0, 26), (1, 117), (0, 27), (0, 28), (0, 29), (2, 118), (2, 119), (0, 30), (0, 31)])
  | 20 => (0, 63, [])
  | 21 => (0, 63, [])
  | 22 => (2, 63, [])
  | 23 => (0, 9, [])
  | 24 => (0, 9, [])
  | 25 => (0, 2744, [])
  | 26 => (0, 9, [])
  | 27 => (0, 63, [])
  | 28 => (1, 9, [])
  | 29 => (1, 9, [])
  | 30 => (1, 9, [])
  | 31 => (1, 9, [])
  | _ => (0, 0, [])
def fv (K : Ctx) (σ : Sto) : Nat × Nat → Value
  | (0, j) => .ref (kA K j)
  | (1, d) => .int (i32 (σ d 0))
  | (_, d) => .long (i64 (σ d 0))
def entOf (K : Ctx) (σ : Sto) (k : Nat) : Nat × Nat × List (Nat × Nat) → va_E
  | (0, n, _) => .inl (kI K, n, .inl (fun i => i32 (σ k i)))
  | (1, n, _) => .inl (kJ K, n, .inr (.inl (fun i => i64 (σ k i))))
  | (2, n, _) => .inl (kZ K, n, .inl (fun i => i32 (σ k i)))
  | (_, ci, fs) => .inr (ci, fs.map (fv K σ))
def ent (K : Ctx) (σ : Sto) (k : Nat) : va_E := entOf K σ k (sh k)
def wld (K : Ctx) (σ : Sto) : va_W := (List.range 32).map (fun k => (kA K k, ent K σ k))
def Own (K : Ctx) (q : Nat) : Prop := ∃ k : Nat, k < 32 ∧ q = kA K k
theorem wld_get (K : Ctx) (σ : Sto) {k : Nat} (h : k < 32) : (wld K σ)[k]? = some (kA K k, ent K σ k) := by
  simp [wld, List.getElem?_map, List.getElem?_range h]
theorem wld_some {K : Ctx} {σ : Sto} {k : Nat} {q : Nat × va_E} (h : (wld K σ)[k]? = some q) : k < 32 ∧ q = (kA K k, ent K σ k) := by
  have hk : k < 32 := by
    have := (List.getElem?_eq_some_iff.mp h).1
    simpa [wld] using this
  rw [wld_get K σ hk] at h
  exact ⟨hk, (Option.some.inj h).symm⟩
def Inj (K : Ctx) : Prop := ∀ i j : Nat, i < 32 → j < 32 → kA K i = kA K j → i = j
theorem wld_D {K : Ctx} {A : Nat → Prop} (hi : Inj K) (hA : ∀ q, Own K q → A q) (σ : Sto) : va_D A (wld K σ) := by
  refine ⟨fun i j p q h1 h2 he => ?_, fun k q h => ?_⟩
  · obtain ⟨l1, rfl⟩ := wld_some h1
    obtain ⟨l2, rfl⟩ := wld_some h2
    exact hi i j l1 l2 he
  · obtain ⟨l1, rfl⟩ := wld_some h
    exact hA _ ⟨k, l1, rfl⟩
theorem wld_set {K : Ctx} {σ σ' : Sto} {q0 : Nat} {e : va_E} (hq : q0 < 32) (h : ∀ k, k < 32 → k ≠ q0 → ent K σ' k = ent K σ k) (h0 : ent K σ' q0 = e) : (wld K σ).set q0 (kA K q0, e) = wld K σ' := by
  apply List.ext_getElem?
  intro k
  by_cases hk : k < 32
  · by_cases hkq : k = q0
    · subst hkq
      rw [List.getElem?_set_self (by simp [wld]; exact hk), wld_get K σ' hk, h0]
    · rw [List.getElem?_set_ne (Ne.symm hkq), wld_get K σ hk, wld_get K σ' hk, h k hk hkq]
  · rw [List.getElem?_eq_none (by simp [wld]; omega), List.getElem?_eq_none (by simp [wld]; omega)]
theorem up_self (σ : Sto) (k i : Nat) (v : Int) : up σ k i v k i = v := by simp [up]
theorem up_ne (σ : Sto) {k k' : Nat} (i : Nat) (v : Int) (h : k' ≠ k) : up σ k i v k' = σ k' := by funext j; simp [up, h]
theorem sh_ids : ∀ k, k < 32 → ∀ f ∈ (sh k).2.2, f.1 = 0 ∨ 100 ≤ f.2 := by decide +kernel
theorem fv_ne {K : Ctx} {σ : Sto} {f : Nat × Nat} {q i : Nat} {v : Int} (h : f.1 = 0 ∨ f.2 ≠ q) : fv K (up σ q i v) f = fv K σ f := by
  obtain ⟨a, d⟩ := f
  match a, h with
  | 0, _ => rfl
  | 1, h => 
    have h : d ≠ q := by simpa using h
    simp [fv, up, h]
  | a + 2, h =>
    have h : d ≠ q := by simpa using h
    simp [fv, up, h]
theorem entOf_ne {K : Ctx} {σ : Sto} {q i k : Nat} {v : Int} (S : Nat × Nat × List (Nat × Nat)) (hk : k ≠ q) (hf : ∀ f ∈ S.2.2, f.1 = 0 ∨ f.2 ≠ q) : entOf K (up σ q i v) k S = entOf K σ k S := by
  obtain ⟨a, n, fs⟩ := S
  match a with
  | 0 => simp only [entOf]; rw [up_ne σ i v hk]
  | 1 => simp only [entOf]; rw [up_ne σ i v hk]
  | 2 => simp only [entOf]; rw [up_ne σ i v hk]
  | a + 3 =>
    simp only [entOf]
    congr 2
    exact List.map_congr_left (fun f h => fv_ne (hf f h))
theorem ent_arr_ne {K : Ctx} {σ : Sto} {q i : Nat} {v : Int} (hq : q < 100) : ∀ k, k < 32 → k ≠ q → ent K (up σ q i v) k = ent K σ k := fun k hk hne =>
  entOf_ne _ hne (fun f h => (sh_ids k hk f h).imp id (fun h2 => by omega))
theorem ent_fld_ne {K : Ctx} {σ : Sto} {q d : Nat} {v : Int} (hd : 100 ≤ d) (hc : ∀ k, k < 32 → k ≠ q → ∀ f ∈ (sh k).2.2, f.1 = 0 ∨ f.2 ≠ d) : ∀ k, k < 32 → k ≠ q → ent K (up σ d 0 v) k = ent K σ k := fun k hk hne =>
  entOf_ne _ (by omega) (hc k hk hne)
/-! numbers -/
abbrev InI (a : Int) : Prop := -2147483648 ≤ a ∧ a ≤ 2147483647
abbrev InL (a : Int) : Prop := -9223372036854775808 ≤ a ∧ a ≤ 9223372036854775807
theorem i32_min : Int32.minValue.toInt = -2147483648 := by decide
theorem i32_max : Int32.maxValue.toInt = 2147483647 := by decide
theorem i64_min : Int64.minValue.toInt = -9223372036854775808 := by decide
theorem i64_max : Int64.maxValue.toInt = 9223372036854775807 := by decide
theorem i32_lt {a b : Int} (ha : InI a) (hb : InI b) : i32 a < i32 b ↔ a < b := Int32.ofInt_lt_iff_lt (by rw [i32_min]; exact ha.1) (by rw [i32_max]; exact ha.2) (by rw [i32_min]; exact hb.1) (by rw [i32_max]; exact hb.2)
theorem i32_le {a b : Int} (ha : InI a) (hb : InI b) : i32 a ≤ i32 b ↔ a ≤ b := Int32.ofInt_le_iff_le (by rw [i32_min]; exact ha.1) (by rw [i32_max]; exact ha.2) (by rw [i32_min]; exact hb.1) (by rw [i32_max]; exact hb.2)
theorem i32_toInt {a : Int} (ha : InI a) : (i32 a).toInt = a := Int32.toInt_ofInt_of_le (by have := ha.1; omega) (by have := ha.2; omega)
theorem i32_eq {a b : Int} (ha : InI a) (hb : InI b) : i32 a = i32 b ↔ a = b := ⟨fun h => by rw [← i32_toInt ha, ← i32_toInt hb, h], fun h => by rw [h]⟩
theorem i32_0 : i32 0 = 0 := rfl
theorem i64_lt {a b : Int} (ha : InL a) (hb : InL b) : i64 a < i64 b ↔ a < b := Int64.ofInt_lt_iff_lt (by rw [i64_min]; exact ha.1) (by rw [i64_max]; exact ha.2) (by rw [i64_min]; exact hb.1) (by rw [i64_max]; exact hb.2)
theorem i64_le {a b : Int} (ha : InL a) (hb : InL b) : i64 a ≤ i64 b ↔ a ≤ b := Int64.ofInt_le_iff_le (by rw [i64_min]; exact ha.1) (by rw [i64_max]; exact ha.2) (by rw [i64_min]; exact hb.1) (by rw [i64_max]; exact hb.2)
theorem i64_toInt {a : Int} (ha : InL a) : (i64 a).toInt = a := Int64.toInt_ofInt_of_le (by have := ha.1; omega) (by have := ha.2; omega)
theorem i64_eq {a b : Int} (ha : InL a) (hb : InL b) : i64 a = i64 b ↔ a = b := ⟨fun h => by rw [← i64_toInt ha, ← i64_toInt hb, h], fun h => by rw [h]⟩
theorem i32_l {a : Int} (ha : InI a) : (i32 a).toInt64 = i64 a := Int32.toInt64_ofInt (by rw [i32_min]; exact ha.1) (by rw [i32_max]; exact ha.2)
theorem i32_div {a b : Int} (ha : 0 ≤ a ∧ a ≤ 2147483647) (hb : 0 < b ∧ b ≤ 2147483647) : i32 a / i32 b = i32 (a / b) := by
  rw [← Int.tdiv_eq_ediv_of_nonneg ha.1]
  exact (Int32.ofInt_tdiv (by rw [i32_min]; omega) (by rw [i32_max]; exact ha.2) (by rw [i32_min]; omega) (by rw [i32_max]; exact hb.2)).symm
theorem i64_div {a b : Int} (ha : 0 ≤ a ∧ a ≤ 9223372036854775807) (hb : 0 < b ∧ b ≤ 9223372036854775807) : i64 a / i64 b = i64 (a / b) := by
  rw [← Int.tdiv_eq_ediv_of_nonneg ha.1]
  exact (Int64.ofInt_tdiv (by rw [i64_min]; omega) (by rw [i64_max]; exact ha.2) (by rw [i64_min]; omega) (by rw [i64_max]; exact hb.2)).symm
theorem i32_rem {a b : Int} (ha : 0 ≤ a ∧ a ≤ 2147483647) (hb : 0 < b ∧ b ≤ 2147483647) : i32 a - i32 a / i32 b * i32 b = i32 (a % b) := by
  rw [i32_div ha hb, ← Int32.ofInt_mul, ← Int32.ofInt_sub, Int.emod_def, Int.mul_comm]
theorem i64_rem {a b : Int} (ha : 0 ≤ a ∧ a ≤ 9223372036854775807) (hb : 0 < b ∧ b ≤ 9223372036854775807) : i64 a - i64 a / i64 b * i64 b = i64 (a % b) := by
  rw [i64_div ha hb, ← Int64.ofInt_mul, ← Int64.ofInt_sub, Int.emod_def, Int.mul_comm]
theorem i32_in {a : Int} {n : Nat} (h : 0 ≤ a ∧ a < n) (hn : n < 2147483648) : vp_in (i32 a) n := by
  rw [vp_in_iff, i32_toInt ⟨by omega, by omega⟩]
  exact h
theorem i32_cl {a : Int} (h : InI a) : (i32 a).toNatClampNeg = a.toNat := Int32.toNatClampNeg_ofInt_of_le (by have := h.1; omega) (by have := h.2; omega)
theorem i32_ofToInt (x : Int32) : x = i32 x.toInt := (Int32.ofInt_toInt x).symm
theorem i32_rng (x : Int32) : InI x.toInt := ⟨by have := x.le_toInt; omega, by have := x.toInt_lt; omega⟩
/-! LOCALS by their places -/
def al : Nat → List (Option Value) → List (Nat × Value)
  | _, [] => []
  | i, some v :: t => (i, v) :: al (i + 1) t
  | i, none :: t => al (i + 1) t
def lk : List (Option Value) → Nat → Option Value
  | [], _ => none
  | x :: _, 0 => x
  | _ :: t, n + 1 => lk t n
def kl : Option Value → Option Value
  | some (.long _) => none
  | some (.double _) => none
  | x => x
def stI : List (Option Value) → Nat → Value → List (Option Value)
  | [], _, _ => []
  | _ :: t, 0, v => some v :: t
  | x :: t, 1, v => kl x :: stI t 0 v
  | x :: t, n + 2, v => x :: stI t (n + 1) v
def no1 : List (Option Value) → List (Option Value)
  | [] => []
  | _ :: t => none :: t
def stL : List (Option Value) → Nat → Value → List (Option Value)
  | [], _, _ => []
  | _ :: t, 0, v => some v :: no1 t
  | x :: t, 1, v => kl x :: stL t 0 v
  | x :: t, n + 2, v => x :: stL t (n + 1) v
theorem al_lk : ∀ (L : List (Option Value)) (i j : Nat) (v : Value), lk L i = some v → (j + i, v) ∈ al j L
  | [], i, j, v, h => by simp [lk] at h
  | some w :: t, 0, j, v, h => by simp [lk] at h; simp [al, h]
  | none :: t, 0, j, v, h => by simp [lk] at h
  | some w :: t, i + 1, j, v, h => by
    have := al_lk t i (j + 1) v (by simpa [lk] using h)
    rw [al]
    exact List.mem_cons_of_mem _ (by rwa [show j + (i + 1) = j + 1 + i by omega])
  | none :: t, i + 1, j, v, h => by
    have := al_lk t i (j + 1) v (by simpa [lk] using h)
    rw [al]
    rwa [show j + (i + 1) = j + 1 + i by omega]
theorem al_ge : ∀ (L : List (Option Value)) (j : Nat) (q : Nat × Value), q ∈ al j L → j ≤ q.1
  | [], j, q, h => by simp [al] at h
  | some w :: t, j, q, h => by
    rcases List.mem_cons.mp (by simpa [al] using h) with h | h
    · simp [h]
    · have := al_ge t (j + 1) q h; omega
  | none :: t, j, q, h => by
    have := al_ge t (j + 1) q (by simpa [al] using h); omega
theorem kl_cases (x : Option Value) (v : Value) (h : kl x = some v) : x = some v ∧ v.category ≠ 2 := by
  cases x with
  | none => simp [kl] at h
  | some w => cases w <;> simp [kl] at h <;> subst h <;> simp [Value.category]
theorem al_st : ∀ (L : List (Option Value)) (i j : Nat) (v : Value) (q : Nat × Value), q ∈ al j (stI L i v) → q = (j + i, v) ∨ (q ∈ al j L ∧ q.1 ≠ j + i ∧ ¬ (q.1 + 1 = j + i ∧ q.2.category = 2))
  | [], i, j, v, q, h => by simp [stI, al] at h
  | x :: t, 0, j, v, q, h => by
    rcases List.mem_cons.mp (by simpa [stI, al] using h) with h9 | h9
    · left; simpa using h9
    · right
      have h1 := al_ge t (j + 1) q h9
      refine ⟨?_, by omega, by omega⟩
      clear h
      cases x with
      | none => simpa [al] using h9
      | some w => rw [al]; exact List.mem_cons_of_mem _ h9
  | x :: t, 1, j, v, q, h => by
    have h : q ∈ al j (kl x :: stI t 0 v) := by simpa [stI] using h
    have key : (∃ w, kl x = some w ∧ q = (j, w)) ∨ q ∈ al (j + 1) (stI t 0 v) := by
      cases hx : kl x with
      | none => rw [hx] at h; right; simpa [al] using h
      | some w => rw [hx] at h; rcases List.mem_cons.mp (by simpa [al] using h) with h | h
                  · left; exact ⟨w, rfl, h⟩
                  · right; exact h
    rcases key with ⟨w, hw, rfl⟩ | h
    · obtain ⟨hx, hc⟩ := kl_cases x w hw
      subst hx
      right
      exact ⟨by simp [al], by simp, fun hh => hc hh.2⟩
    · rcases al_st t 0 (j + 1) v q h with h | ⟨h1, h2, h3⟩
      · left; simpa using h
      · right
        have h4 := al_ge t (j + 1) q h1
        refine ⟨?_, by simpa using h2, by omega⟩
        cases x with
        | none => simpa [al] using h1
        | some w => rw [al]; exact List.mem_cons_of_mem _ h1
  | x :: t, n + 2, j, v, q, h => by
    have h : q ∈ al j (x :: stI t (n + 1) v) := by simpa [stI] using h
    have key : (∃ w, x = some w ∧ q = (j, w)) ∨ q ∈ al (j + 1) (stI t (n + 1) v) := by
      cases x with
      | none => right; simpa [al] using h
      | some w => rcases List.mem_cons.mp (by simpa [al] using h) with h | h
                  · left; exact ⟨w, rfl, h⟩
                  · right; exact h
    rcases key with ⟨w, rfl, rfl⟩ | h
    · right; exact ⟨by simp [al], by simp, by simp⟩
    · rcases al_st t (n + 1) (j + 1) v q h with h | ⟨h1, h2, h3⟩
      · left; rw [h]; congr 1; omega
      · right
        refine ⟨?_, by omega, by rw [show j + (n + 2) = j + 1 + (n + 1) by omega]; exact h3⟩
        cases x with
        | none => simpa [al] using h1
        | some w => rw [al]; exact List.mem_cons_of_mem _ h1
theorem al_no1 (L : List (Option Value)) (j : Nat) (q : Nat × Value) (h : q ∈ al j (no1 L)) : q ∈ al j L ∧ j + 1 ≤ q.1 := by
  cases L with
  | nil => simp [no1, al] at h
  | cons x t =>
    have h9 : q ∈ al (j + 1) t := by simpa [no1, al] using h
    refine ⟨?_, al_ge _ _ _ h9⟩
    clear h
    cases x with
    | none => simpa [al] using h9
    | some w => rw [al]; exact List.mem_cons_of_mem _ h9
theorem al_stL : ∀ (L : List (Option Value)) (i j : Nat) (v : Value) (q : Nat × Value), q ∈ al j (stL L i v) → q = (j + i, v) ∨ (q ∈ al j L ∧ q.1 ≠ j + i ∧ q.1 ≠ j + i + 1 ∧ ¬ (q.1 + 1 = j + i ∧ q.2.category = 2))
  | [], i, j, v, q, h => by simp [stL, al] at h
  | x :: t, 0, j, v, q, h => by
    rcases List.mem_cons.mp (by simpa [stL, al] using h) with h | h
    · left; simpa using h
    · right
      obtain ⟨h0, h1⟩ := al_no1 t (j + 1) q h
      refine ⟨?_, by omega, by omega, by omega⟩
      cases x with
      | none => simpa [al] using h0
      | some w => rw [al]; exact List.mem_cons_of_mem _ h0
  | x :: t, 1, j, v, q, h => by
    have h : q ∈ al j (kl x :: stL t 0 v) := by simpa [stL] using h
    have key : (∃ w, kl x = some w ∧ q = (j, w)) ∨ q ∈ al (j + 1) (stL t 0 v) := by
      cases hx : kl x with
      | none => rw [hx] at h; right; simpa [al] using h
      | some w => rw [hx] at h; rcases List.mem_cons.mp (by simpa [al] using h) with h | h
                  · left; exact ⟨w, rfl, h⟩
                  · right; exact h
    rcases key with ⟨w, hw, rfl⟩ | h
    · obtain ⟨hx, hc⟩ := kl_cases x w hw
      subst hx
      right
      exact ⟨by simp [al], by simp, by simp; omega, fun hh => hc hh.2⟩
    · rcases al_stL t 0 (j + 1) v q h with h | ⟨h1, h2, h3, h5⟩
      · left; simpa using h
      · right
        have h4 := al_ge t (j + 1) q h1
        refine ⟨?_, by omega, by omega, by omega⟩
        cases x with
        | none => simpa [al] using h1
        | some w => rw [al]; exact List.mem_cons_of_mem _ h1
  | x :: t, n + 2, j, v, q, h => by
    have h : q ∈ al j (x :: stL t (n + 1) v) := by simpa [stL] using h
    have key : (∃ w, x = some w ∧ q = (j, w)) ∨ q ∈ al (j + 1) (stL t (n + 1) v) := by
      cases x with
      | none => right; simpa [al] using h
      | some w => rcases List.mem_cons.mp (by simpa [al] using h) with h | h
                  · left; exact ⟨w, rfl, h⟩
                  · right; exact h
    rcases key with ⟨w, rfl, rfl⟩ | h
    · right; exact ⟨by simp [al], by simp, by simp; omega, by simp⟩
    · rcases al_stL t (n + 1) (j + 1) v q h with h | ⟨h1, h2, h3, h5⟩
      · left; rw [h]; congr 1; omega
      · right
        refine ⟨?_, by omega, by omega, by rw [show j + (n + 2) = j + 1 + (n + 1) by omega]; exact h5⟩
        cases x with
        | none => simpa [al] using h1
        | some w => rw [al]; exact List.mem_cons_of_mem _ h1
theorem lv_stI {ls : Array Slot} {nL i : Nat} {L : List (Option Value)} {v : Value} (h : lv_has ls nL ((i, v) :: (al 0 L).filter (fun q => !(q.1 == i) && !(q.1 + 1 == i && q.2.category == 2)))) : lv_has ls nL (al 0 (stI L i v)) := by
  refine ⟨h.1, h.2.1, fun q hq => h.2.2 q ?_⟩
  rcases al_st L i 0 v q hq with h1 | ⟨h1, h2, h3⟩
  · rw [h1]; simp
  · refine List.mem_cons_of_mem _ (List.mem_filter.mpr ⟨h1, ?_⟩)
    simp at h2 h3
    simp only [Bool.and_eq_true, Bool.not_eq_true', beq_eq_false_iff_ne, ne_eq, Bool.and_eq_false_iff]
    refine ⟨h2, ?_⟩
    by_cases h4 : q.1 + 1 = i
    · right; exact h3 h4
    · left; exact h4
theorem lv_stL {ls : Array Slot} {nL i : Nat} {L : List (Option Value)} {v : Value} (h : lv_has ls nL ((i, v) :: (al 0 L).filter (fun q => !(q.1 == i) && (!(q.1 == i + 1) && !(q.1 + 1 == i && q.2.category == 2))))) : lv_has ls nL (al 0 (stL L i v)) := by
  refine ⟨h.1, h.2.1, fun q hq => h.2.2 q ?_⟩
  rcases al_stL L i 0 v q hq with h1 | ⟨h1, h2, h3, h5⟩
  · rw [h1]; simp
  · refine List.mem_cons_of_mem _ (List.mem_filter.mpr ⟨h1, ?_⟩)
    simp at h2 h3 h5
    simp only [Bool.and_eq_true, Bool.not_eq_true', beq_eq_false_iff_ne, ne_eq, Bool.and_eq_false_iff]
    refine ⟨h2, h3, ?_⟩
    by_cases h4 : q.1 + 1 = i
    · right; exact h5 h4
    · left; exact h4
theorem lv_lk {ls : Array Slot} {nL i : Nat} {L : List (Option Value)} {v : Value} (h : lv_has ls nL (al 0 L)) (hk : lk L i = some v) : ls[i]? = some (.val v) := by
  have := h.2.2 (0 + i, v) (al_lk L i 0 v hk)
  simpa using this
end
section
/-! THE JUDGEMENT over the pure store -/
theorem TW_in {w : Cond} (h : w ∈ TW) : w ∈ lw_tbl := (List.mem_filter.mp h).1
theorem TW_good : GoodIn TW TW := fun w h => ⟨h, good_of_word (List.mem_filter.mp h).2⟩
abbrev MI : Type := MethodName × ByteArray × Nat × Option FieldType
abbrev wsM (Mi : MI) : List Cond := Cond.code Mi.1 Mi.2.1 Mi.2.2.1 Mi.2.2.2 :: TW
abbrev ME : Type := Program × Launch × Env × Room × State × MethodId × Array Value × List Frame × Method × Code × Nat × Nat × (State → Prop) × (Nat → Prop)
abbrev rmD (d : Nat) : Room := { frames := d, cells := 0, slots := 0, locals := 36 * d }
def StU (K : Ctx) (A : Nat → Prop) (U : State) (H : Heap) : Prop :=
  (va_Z "HullOffsets" "SETTING_LOW" "[I" (.ref (kLow K)) A U H ∧ va_T .int (kLow K) 4 (fun j => .int (i32 (if j < 2 then 0 else 1))) A U H) ∧
  (va_Z "HullOffsets" "SETTING_TOP" "[I" (.ref (kTop K)) A U H ∧ va_T .int (kTop K) 4 (fun j => .int (i32 (if j = 0 then 999 else if j = 1 then 3 else 99))) A U H)
def NwAll (U : State) : Prop := ∀ w ∈ nwL, va_Nw w U
def KU (K : Ctx) (A : Nat → Prop) (U : State) (H : Heap) : Prop := va_K K.1 vwCl (tysK K) U ∧ NwAll U ∧ StU K A U H ∧ Inj K
theorem StU.moved {K : Ctx} {A : Nat → Prop} {u U : State} {H : Heap} (hvm : u.vm.Alike U.vm) (h : StU K A u H) : StU K A U H :=
  ⟨⟨va_Z.moved hvm h.1.1, va_T.moved hvm h.1.2⟩, va_Z.moved hvm h.2.1, va_T.moved hvm h.2.2⟩
theorem StU.kept {K : Ctx} {A : Nat → Prop} {U : State} {H H1 : Heap} (h : StU K A U H) (hq : ∀ a : Nat, a < H.size → ¬ A a → H1[a]? = H[a]?) : StU K A U H1 :=
  ⟨⟨h.1.1.kept hq, h.1.2.kept hq⟩, h.2.1.kept hq, h.2.2.kept hq⟩
theorem StU.narrow {K : Ctx} {A B : Nat → Prop} {U : State} {H : Heap} (h : StU K A U H) (hAB : ∀ q, B q → A q) : StU K B U H :=
  ⟨⟨h.1.1.narrow hAB, h.1.2.narrow hAB⟩, h.2.1.narrow hAB, h.2.2.narrow hAB⟩
theorem nwL_kind : ∀ w ∈ nwL, (∃ a i b n d h, w = Cond.fieldLinkNest a i b n d h) ∨ (∃ a i x h, w = Cond.methodLinkNest a i x h) := nwL_kinds
theorem NwAll.warm {s U : State} (hW : s.WarmedH U.vm) (h : NwAll s) : NwAll U := by
  intro w hw
  have h1 := h w hw
  rcases nwL_kind w hw with ⟨a, i, b, n, d, h, rfl⟩ | ⟨a, i, x, h, rfl⟩
  · exact va_Nw.warmF hW h1
  · exact va_Nw.warmM hW h1
theorem NwAll.same {u U : State} (hv : u.vm = U.vm) (h : NwAll u) : NwAll U := by
  intro w hw
  have h1 := h w hw
  rcases nwL_kind w hw with ⟨a, i, b, n, d, h, rfl⟩ | ⟨a, i, x, h, rfl⟩
  · exact va_Nw.same rfl hv h1
  · exact va_Nw.same rfl hv h1
abbrev eP (E : ME) : Program := E.1
abbrev eL (E : ME) : Launch := E.2.1
abbrev eE (E : ME) : Env := E.2.2.1
abbrev eR (E : ME) : Room := E.2.2.2.1
abbrev eS (E : ME) : State := E.2.2.2.2.1
abbrev eM (E : ME) : MethodId := E.2.2.2.2.2.1
abbrev eG (E : ME) : Array Value := E.2.2.2.2.2.2.1
abbrev eB (E : ME) : List Frame := E.2.2.2.2.2.2.2.1
abbrev eT (E : ME) : Method := E.2.2.2.2.2.2.2.2.1
abbrev eC (E : ME) : Code := E.2.2.2.2.2.2.2.2.2.1
abbrev eX (E : ME) : Nat := E.2.2.2.2.2.2.2.2.2.2.1
abbrev eY (E : ME) : Nat := E.2.2.2.2.2.2.2.2.2.2.2.1
abbrev eQ (E : ME) : State → Prop := E.2.2.2.2.2.2.2.2.2.2.2.2.1
abbrev eA (E : ME) : Nat → Prop := E.2.2.2.2.2.2.2.2.2.2.2.2.2
abbrev WE (E : ME) (H : Heap) (locs : List Loc) (g : JFrame) : Prop := W (eP E) (eL E) (eE E) (eR E) (eS E) (eM E) (eG E) (eB E) (eT E) (eC E) H locs (eX E) (eY E) (eQ E) g
def V (K : Ctx) (E : ME) (Mi : MI) (pc : Nat) (L : List (Option Value)) (st : List Value) (σ : Sto) : Prop :=
  ∀ (H : Heap) (locs : List Loc) (ls : Array Slot), va_P K.1 vwCl (wld K σ) H → va_S (eA E) (eS E).heap H locs → lv_has ls Mi.2.2.1 (al 0 L) → WE E H locs (F0 (eM E) pc ls st)
def Ok (K : Ctx) (E : ME) (Mi : MI) (d : Nat) : Prop :=
  (eP E).tables.exec = Jvm.exec ∧ (eC E).code = Mi.2.1 ∧ (eC E).maxLocals = Mi.2.2.1 ∧ (eS E).vm.findClass Mi.1.cls = some (eM E).cls ∧ (∀ w ∈ TW, w.before (eG E) (eS E) = true) ∧ KU K (eA E) (eS E) (eS E).heap ∧
  (d ≤ (eR E).frames ∧ 36 * d ≤ (eR E).locals ∧ eX E ≤ (eR E).cells ∧ eY E ≤ (eR E).slots) ∧ ∀ q, Own K q → eA E q
section VROWS
variable {K : Ctx} {E : ME} {Mi : MI} {d pc : Nat} {L : List (Option Value)} {st : List Value} {σ : Sto}
theorem V_iconst (hE : Ok K E Mi d) {n : Int} (hd : decode Mi.2.1 pc = .ok (.iconst n, 1)) (k : V K E Mi (pc + 1) L (.int (i32 n) :: st) σ) : V K E Mi pc L st σ :=
  fun H locs ls hP hS hl => lv_iconst (v := i32 n) hE.1 hE.2.1 hd rfl (k H locs ls hP hS hl)
theorem V_bipush (hE : Ok K E Mi d) {n : Int} (hd : decode Mi.2.1 pc = .ok (.bipush n, 2)) (hv : (Int8.ofInt n).toInt32 = i32 n) (k : V K E Mi (pc + 2) L (.int (i32 n) :: st) σ) : V K E Mi pc L st σ :=
  fun H locs ls hP hS hl => lv_bipush (v := i32 n) hE.1 hE.2.1 hd hv (k H locs ls hP hS hl)
theorem V_sipush (hE : Ok K E Mi d) {n : Int} (hd : decode Mi.2.1 pc = .ok (.sipush n, 3)) (hv : (Int16.ofInt n).toInt32 = i32 n) (k : V K E Mi (pc + 3) L (.int (i32 n) :: st) σ) : V K E Mi pc L st σ :=
  fun H locs ls hP hS hl => lv_sipush (v := i32 n) hE.1 hE.2.1 hd hv (k H locs ls hP hS hl)
theorem V_iload_n (hE : Ok K E Mi d) {k : Fin 4} {x : Int32} (hd : decode Mi.2.1 pc = .ok (.iload_n k, 1)) (hL : lk L k = some (.int x)) (kk : V K E Mi (pc + 1) L (.int x :: st) σ) : V K E Mi pc L st σ :=
  fun H locs ls hP hS hl => lv_iload_n hE.1 hE.2.1 hd rfl (lv_lk hl hL) (kk H locs ls hP hS hl)
theorem V_iload (hE : Ok K E Mi d) {i : Nat} {x : Int32} (hd : decode Mi.2.1 pc = .ok (.iload i, 2)) (hL : lk L i = some (.int x)) (kk : V K E Mi (pc + 2) L (.int x :: st) σ) : V K E Mi pc L st σ :=
  fun H locs ls hP hS hl => lv_iload hE.1 hE.2.1 hd (lv_lk hl hL) (kk H locs ls hP hS hl)
theorem V_lload_n (hE : Ok K E Mi d) {k : Fin 4} {x : Int64} (hd : decode Mi.2.1 pc = .ok (.lload_n k, 1)) (hL : lk L k = some (.long x)) (kk : V K E Mi (pc + 1) L (.long x :: st) σ) : V K E Mi pc L st σ :=
  fun H locs ls hP hS hl => lv_lload_n hE.1 hE.2.1 hd rfl (lv_lk hl hL) (kk H locs ls hP hS hl)
theorem V_lload (hE : Ok K E Mi d) {i : Nat} {x : Int64} (hd : decode Mi.2.1 pc = .ok (.lload i, 2)) (hL : lk L i = some (.long x)) (kk : V K E Mi (pc + 2) L (.long x :: st) σ) : V K E Mi pc L st σ :=
  fun H locs ls hP hS hl => lv_lload hE.1 hE.2.1 hd (lv_lk hl hL) (kk H locs ls hP hS hl)
theorem V_aload_n (hE : Ok K E Mi d) {k : Fin 4} {x : Nat} (hd : decode Mi.2.1 pc = .ok (.aload_n k, 1)) (hL : lk L k = some (.ref x)) (kk : V K E Mi (pc + 1) L (.ref x :: st) σ) : V K E Mi pc L st σ :=
  fun H locs ls hP hS hl => lv_aload_n hE.1 hE.2.1 hd rfl (lv_lk hl hL) (kk H locs ls hP hS hl)
theorem V_istore_n (hE : Ok K E Mi d) {k : Fin 4} {x : Int32} (hd : decode Mi.2.1 pc = .ok (.istore_n k, 1)) (hn : Nat.blt k Mi.2.2.1 = true) (kk : V K E Mi (pc + 1) (stI L k (.int x)) st σ) : V K E Mi pc L (.int x :: st) σ :=
  fun H locs ls hP hS hl => lv_istore_n hE.1 hE.2.1 hd rfl hl (Nat.le_of_ble_eq_true hn) rfl (fun ls' hl' => kk H locs ls' hP hS (lv_stI hl'))
theorem V_istore (hE : Ok K E Mi d) {i : Nat} {x : Int32} (hd : decode Mi.2.1 pc = .ok (.istore i, 2)) (hn : Nat.blt i Mi.2.2.1 = true) (kk : V K E Mi (pc + 2) (stI L i (.int x)) st σ) : V K E Mi pc L (.int x :: st) σ :=
  fun H locs ls hP hS hl => lv_istore hE.1 hE.2.1 hd hl (Nat.le_of_ble_eq_true hn) rfl (fun ls' hl' => kk H locs ls' hP hS (lv_stI hl'))
theorem V_lstore_n (hE : Ok K E Mi d) {k : Fin 4} {x : Int64} (hd : decode Mi.2.1 pc = .ok (.lstore_n k, 1)) (hn : Nat.blt (k + 1) Mi.2.2.1 = true) (kk : V K E Mi (pc + 1) (stL L k (.long x)) st σ) : V K E Mi pc L (.long x :: st) σ :=
  fun H locs ls hP hS hl => lv_lstore_n hE.1 hE.2.1 hd rfl hl (Nat.le_of_ble_eq_true hn) rfl (fun ls' hl' => kk H locs ls' hP hS (lv_stL hl'))
theorem V_lstore (hE : Ok K E Mi d) {i : Nat} {x : Int64} (hd : decode Mi.2.1 pc = .ok (.lstore i, 2)) (hn : Nat.blt (i + 1) Mi.2.2.1 = true) (kk : V K E Mi (pc + 2) (stL L i (.long x)) st σ) : V K E Mi pc L (.long x :: st) σ :=
  fun H locs ls hP hS hl => lv_lstore hE.1 hE.2.1 hd hl (Nat.le_of_ble_eq_true hn) rfl (fun ls' hl' => kk H locs ls' hP hS (lv_stL hl'))
theorem V_iinc (hE : Ok K E Mi d) {i : Nat} {n x : Int} (hd : decode Mi.2.1 pc = .ok (.iinc i n, 3)) (hL : lk L i = some (.int (i32 x))) (hn : Nat.blt i Mi.2.2.1 = true) (kk : V K E Mi (pc + 3) (stI L i (.int (i32 (x + n)))) st σ) : V K E Mi pc L st σ := by
  intro H locs ls hP hS hl
  have hm := al_lk L i 0 _ hL
  rw [Nat.zero_add] at hm
  obtain ⟨k, hk⟩ := List.getElem?_of_mem hm
  exact lv_iinc (x := i32 x) (v := i32 (x + n)) (k := k) hE.1 hE.2.1 hd hl hk (by rw [i32, i32, Int32.ofInt_add]) (Nat.le_of_ble_eq_true hn) rfl (fun ls' hl' => kk H locs ls' hP hS (lv_stI hl'))
theorem V_iadd (hE : Ok K E Mi d) {a b : Int} (hd : decode Mi.2.1 pc = .ok (.iadd, 1)) (k : V K E Mi (pc + 1) L (.int (i32 (a + b)) :: st) σ) : V K E Mi pc L (.int (i32 b) :: .int (i32 a) :: st) σ :=
  fun H locs ls hP hS hl => lv_iadd hE.1 hE.2.1 hd (by rw [← Int32.ofInt_add]; exact k H locs ls hP hS hl)
theorem V_isub (hE : Ok K E Mi d) {a b : Int} (hd : decode Mi.2.1 pc = .ok (.isub, 1)) (k : V K E Mi (pc + 1) L (.int (i32 (a - b)) :: st) σ) : V K E Mi pc L (.int (i32 b) :: .int (i32 a) :: st) σ :=
  fun H locs ls hP hS hl => lv_isub hE.1 hE.2.1 hd (by rw [← Int32.ofInt_sub]; exact k H locs ls hP hS hl)
theorem V_imul (hE : Ok K E Mi d) {a b : Int} (hd : decode Mi.2.1 pc = .ok (.imul, 1)) (k : V K E Mi (pc + 1) L (.int (i32 (a * b)) :: st) σ) : V K E Mi pc L (.int (i32 b) :: .int (i32 a) :: st) σ :=
  fun H locs ls hP hS hl => lv_imul hE.1 hE.2.1 hd (by rw [← Int32.ofInt_mul]; exact k H locs ls hP hS hl)
theorem V_ineg (hE : Ok K E Mi d) {a : Int} (hd : decode Mi.2.1 pc = .ok (.ineg, 1)) (k : V K E Mi (pc + 1) L (.int (i32 (-a)) :: st) σ) : V K E Mi pc L (.int (i32 a) :: st) σ :=
  fun H locs ls hP hS hl => lv_ineg hE.1 hE.2.1 hd (by rw [← Int32.ofInt_neg]; exact k H locs ls hP hS hl)
theorem V_idiv (hE : Ok K E Mi d) {a b : Int} (hd : decode Mi.2.1 pc = .ok (.idiv, 1)) (ha : 0 ≤ a ∧ a ≤ 2147483647) (hb : 0 < b ∧ b ≤ 2147483647) (k : V K E Mi (pc + 1) L (.int (i32 (a / b)) :: st) σ) : V K E Mi pc L (.int (i32 b) :: .int (i32 a) :: st) σ :=
  fun H locs ls hP hS hl => lv_idiv hE.1 hE.2.1 hd (fun h => by rw [← i32_0, i32_eq ⟨by omega, by omega⟩ ⟨by omega, by omega⟩] at h; omega) (by rw [i32_div ha hb]; exact k H locs ls hP hS hl)
theorem V_irem (hE : Ok K E Mi d) {a b : Int} (hd : decode Mi.2.1 pc = .ok (.irem, 1)) (ha : 0 ≤ a ∧ a ≤ 2147483647) (hb : 0 < b ∧ b ≤ 2147483647) (k : V K E Mi (pc + 1) L (.int (i32 (a % b)) :: st) σ) : V K E Mi pc L (.int (i32 b) :: .int (i32 a) :: st) σ :=
  fun H locs ls hP hS hl => lv_irem hE.1 hE.2.1 hd (fun h => by rw [← i32_0, i32_eq ⟨by omega, by omega⟩ ⟨by omega, by omega⟩] at h; omega) (by rw [i32_rem ha hb]; exact k H locs ls hP hS hl)
theorem V_ladd (hE : Ok K E Mi d) {a b : Int} (hd : decode Mi.2.1 pc = .ok (.ladd, 1)) (k : V K E Mi (pc + 1) L (.long (i64 (a + b)) :: st) σ) : V K E Mi pc L (.long (i64 b) :: .long (i64 a) :: st) σ :=
  fun H locs ls hP hS hl => lv_ladd hE.1 hE.2.1 hd (by rw [← Int64.ofInt_add]; exact k H locs ls hP hS hl)
theorem V_lsub (hE : Ok K E Mi d) {a b : Int} (hd : decode Mi.2.1 pc = .ok (.lsub, 1)) (k : V K E Mi (pc + 1) L (.long (i64 (a - b)) :: st) σ) : V K E Mi pc L (.long (i64 b) :: .long (i64 a) :: st) σ :=
  fun H locs ls hP hS hl => lv_lsub hE.1 hE.2.1 hd (by rw [← Int64.ofInt_sub]; exact k H locs ls hP hS hl)
theorem V_lmul (hE : Ok K E Mi d) {a b : Int} (hd : decode Mi.2.1 pc = .ok (.lmul, 1)) (k : V K E Mi (pc + 1) L (.long (i64 (a * b)) :: st) σ) : V K E Mi pc L (.long (i64 b) :: .long (i64 a) :: st) σ :=
  fun H locs ls hP hS hl => lv_lmul hE.1 hE.2.1 hd (by rw [← Int64.ofInt_mul]; exact k H locs ls hP hS hl)
theorem V_lneg (hE : Ok K E Mi d) {a : Int} (hd : decode Mi.2.1 pc = .ok (.lneg, 1)) (k : V K E Mi (pc + 1) L (.long (i64 (-a)) :: st) σ) : V K E Mi pc L (.long (i64 a) :: st) σ :=
  fun H locs ls hP hS hl => lv_lneg hE.1 hE.2.1 hd (by rw [← Int64.ofInt_neg]; exact k H locs ls hP hS hl)
theorem V_ldiv (hE : Ok K E Mi d) {a b : Int} (hd : decode Mi.2.1 pc = .ok (.ldiv, 1)) (ha : 0 ≤ a ∧ a ≤ 9223372036854775807) (hb : 0 < b ∧ b ≤ 9223372036854775807) (k : V K E Mi (pc + 1) L (.long (i64 (a / b)) :: st) σ) : V K E Mi pc L (.long (i64 b) :: .long (i64 a) :: st) σ :=
  fun H locs ls hP hS hl => lv_ldiv hE.1 hE.2.1 hd (fun h => by rw [show (0 : Int64) = i64 0 from rfl, i64_eq ⟨by omega, by omega⟩ ⟨by omega, by omega⟩] at h; omega) (by rw [i64_div ha hb]; exact k H locs ls hP hS hl)
theorem V_lrem (hE : Ok K E Mi d) {a b : Int} (hd : decode Mi.2.1 pc = .ok (.lrem, 1)) (ha : 0 ≤ a ∧ a ≤ 9223372036854775807) (hb : 0 < b ∧ b ≤ 9223372036854775807) (k : V K E Mi (pc + 1) L (.long (i64 (a % b)) :: st) σ) : V K E Mi pc L (.long (i64 b) :: .long (i64 a) :: st) σ :=
  fun H locs ls hP hS hl => lv_lrem hE.1 hE.2.1 hd (fun h => by rw [show (0 : Int64) = i64 0 from rfl, i64_eq ⟨by omega, by omega⟩ ⟨by omega, by omega⟩] at h; omega) (by rw [i64_rem ha hb]; exact k H locs ls hP hS hl)
theorem V_i2l (hE : Ok K E Mi d) {a : Int} (hd : decode Mi.2.1 pc = .ok (.i2l, 1)) (ha : InI a) (k : V K E Mi (pc + 1) L (.long (i64 a) :: st) σ) : V K E Mi pc L (.int (i32 a) :: st) σ :=
  fun H locs ls hP hS hl => lv_i2l (v := i64 a) hE.1 hE.2.1 hd (i32_l ha) (k H locs ls hP hS hl)
theorem V_lconst0 (hE : Ok K E Mi d) (hd : decode Mi.2.1 pc = .ok (.lconst 0, 1)) (k : V K E Mi (pc + 1) L (.long (i64 0) :: st) σ) : V K E Mi pc L st σ :=
  fun H locs ls hP hS hl => lv_lconst (v := i64 0) hE.1 hE.2.1 hd rfl (k H locs ls hP hS hl)
theorem V_lconst1 (hE : Ok K E Mi d) (hd : decode Mi.2.1 pc = .ok (.lconst 1, 1)) (k : V K E Mi (pc + 1) L (.long (i64 1) :: st) σ) : V K E Mi pc L st σ :=
  fun H locs ls hP hS hl => lv_lconst (v := i64 1) hE.1 hE.2.1 hd rfl (k H locs ls hP hS hl)
theorem V_ldc (hE : Ok K E Mi d) {i : Nat} {n : Int} (hw : Cond.constant Mi.1.cls i (i32 n) ∈ TW) (hd : decode Mi.2.1 pc = .ok (.ldc i, 2)) (k : V K E Mi (pc + 2) L (.int (i32 n) :: st) σ) : V K E Mi pc L st σ :=
  fun H locs ls hP hS hl => lv_ldc hE.1 hE.2.1 hE.2.2.2.1 (hE.2.2.2.2.1 _ hw) hd (k H locs ls hP hS hl)
theorem V_ldc2 (hE : Ok K E Mi d) {i : Nat} {n : Int} (hw : Cond.constantLong Mi.1.cls i (i64 n) ∈ TW) (hd : decode Mi.2.1 pc = .ok (.ldc2_w i, 3)) (k : V K E Mi (pc + 3) L (.long (i64 n) :: st) σ) : V K E Mi pc L st σ :=
  fun H locs ls hP hS hl => lv_ldc2 hE.1 hE.2.1 hE.2.2.2.1 (hE.2.2.2.2.1 _ hw) hd (k H locs ls hP hS hl)
theorem V_dup (hE : Ok K E Mi d) {v : Value} (hd : decode Mi.2.1 pc = .ok (.dup, 1)) (hv : v.category = 1) (k : V K E Mi (pc + 1) L (v :: v :: st) σ) : V K E Mi pc L (v :: st) σ :=
  fun H locs ls hP hS hl => lv_dup hE.1 hE.2.1 hd hv (k H locs ls hP hS hl)
theorem V_dup2 (hE : Ok K E Mi d) {v w : Value} (hd : decode Mi.2.1 pc = .ok (.dup2, 1)) (hv : v.category = 1) (hw : w.category = 1) (k : V K E Mi (pc + 1) L (v :: w :: v :: w :: st) σ) : V K E Mi pc L (v :: w :: st) σ :=
  fun H locs ls hP hS hl => lv_dup2_11 hE.1 hE.2.1 hd hv hw (k H locs ls hP hS hl)
theorem V_pop (hE : Ok K E Mi d) {v : Value} (hd : decode Mi.2.1 pc = .ok (.pop, 1)) (hv : v.category = 1) (k : V K E Mi (pc + 1) L st σ) : V K E Mi pc L (v :: st) σ :=
  fun H locs ls hP hS hl => lv_pop hE.1 hE.2.1 hd hv (k H locs ls hP hS hl)
theorem V_goto (hE : Ok K E Mi d) {off : Int} (tgt : Nat) (hd : decode Mi.2.1 pc = .ok (.goto off, 3)) (ht : (pc : Int) + off = (tgt : Int)) (k : V K E Mi tgt L st σ) : V K E Mi pc L st σ :=
  fun H locs ls hP hS hl => lv_goto hE.1 hE.2.1 hd ht (k H locs ls hP hS hl)
theorem V_icmp_eq (hE : Ok K E Mi d) {a b off : Int} (tgt : Nat) (hd : decode Mi.2.1 pc = .ok (.if_icmp .eq off, 3)) (ht : (pc : Int) + off = (tgt : Int)) (hr : InI a ∧ InI b) (kt : a = b → V K E Mi tgt L st σ) (kf : ¬ a = b → V K E Mi (pc + 3) L st σ) : V K E Mi pc L (.int (i32 b) :: .int (i32 a) :: st) σ :=
  fun H locs ls hP hS hl => lv_icmp_eq hE.1 hE.2.1 hd ht (fun h => kt ((i32_eq hr.1 hr.2).mp h) H locs ls hP hS hl) (fun h => kf (fun q => h ((i32_eq hr.1 hr.2).mpr q)) H locs ls hP hS hl)
theorem V_icmp_ne (hE : Ok K E Mi d) {a b off : Int} (tgt : Nat) (hd : decode Mi.2.1 pc = .ok (.if_icmp .ne off, 3)) (ht : (pc : Int) + off = (tgt : Int)) (hr : InI a ∧ InI b) (kt : ¬ a = b → V K E Mi tgt L st σ) (kf : a = b → V K E Mi (pc + 3) L st σ) : V K E Mi pc L (.int (i32 b) :: .int (i32 a) :: st) σ :=
  fun H locs ls hP hS hl => lv_icmp_ne hE.1 hE.2.1 hd ht (fun h => kt (fun q => h ((i32_eq hr.1 hr.2).mpr q)) H locs ls hP hS hl) (fun h => kf ((i32_eq hr.1 hr.2).mp h) H locs ls hP hS hl)
theorem V_icmp_lt (hE : Ok K E Mi d) {a b off : Int} (tgt : Nat) (hd : decode Mi.2.1 pc = .ok (.if_icmp .lt off, 3)) (ht : (pc : Int) + off = (tgt : Int)) (hr : InI a ∧ InI b) (kt : a < b → V K E Mi tgt L st σ) (kf : b ≤ a → V K E Mi (pc + 3) L st σ) : V K E Mi pc L (.int (i32 b) :: .int (i32 a) :: st) σ :=
  fun H locs ls hP hS hl => lv_icmp_lt hE.1 hE.2.1 hd ht (fun h => kt ((i32_lt hr.1 hr.2).mp h) H locs ls hP hS hl) (fun h => kf (Int.not_lt.mp fun q => h ((i32_lt hr.1 hr.2).mpr q)) H locs ls hP hS hl)
theorem V_icmp_ge (hE : Ok K E Mi d) {a b off : Int} (tgt : Nat) (hd : decode Mi.2.1 pc = .ok (.if_icmp .ge off, 3)) (ht : (pc : Int) + off = (tgt : Int)) (hr : InI a ∧ InI b) (kt : b ≤ a → V K E Mi tgt L st σ) (kf : a < b → V K E Mi (pc + 3) L st σ) : V K E Mi pc L (.int (i32 b) :: .int (i32 a) :: st) σ :=
  fun H locs ls hP hS hl => lv_icmp_ge hE.1 hE.2.1 hd ht (fun h => kt ((i32_le hr.2 hr.1).mp h) H locs ls hP hS hl) (fun h => kf (Int.not_le.mp fun q => h ((i32_le hr.2 hr.1).mpr q)) H locs ls hP hS hl)
theorem V_icmp_gt (hE : Ok K E Mi d) {a b off : Int} (tgt : Nat) (hd : decode Mi.2.1 pc = .ok (.if_icmp .gt off, 3)) (ht : (pc : Int) + off = (tgt : Int)) (hr : InI a ∧ InI b) (kt : b < a → V K E Mi tgt L st σ) (kf : a ≤ b → V K E Mi (pc + 3) L st σ) : V K E Mi pc L (.int (i32 b) :: .int (i32 a) :: st) σ :=
  fun H locs ls hP hS hl => lv_icmp_gt hE.1 hE.2.1 hd ht (fun h => kt ((i32_lt hr.2 hr.1).mp h) H locs ls hP hS hl) (fun h => kf (Int.not_lt.mp fun q => h ((i32_lt hr.2 hr.1).mpr q)) H locs ls hP hS hl)
theorem V_icmp_le (hE : Ok K E Mi d) {a b off : Int} (tgt : Nat) (hd : decode Mi.2.1 pc = .ok (.if_icmp .le off, 3)) (ht : (pc : Int) + off = (tgt : Int)) (hr : InI a ∧ InI b) (kt : a ≤ b → V K E Mi tgt L st σ) (kf : b < a → V K E Mi (pc + 3) L st σ) : V K E Mi pc L (.int (i32 b) :: .int (i32 a) :: st) σ :=
  fun H locs ls hP hS hl => lv_icmp_le hE.1 hE.2.1 hd ht (fun h => kt ((i32_le hr.1 hr.2).mp h) H locs ls hP hS hl) (fun h => kf (Int.not_le.mp fun q => h ((i32_le hr.1 hr.2).mpr q)) H locs ls hP hS hl)
theorem i32_z {a : Int} (h : InI a) : i32 a = 0 ↔ a = 0 := i32_eq (b := 0) h ⟨by omega, by omega⟩
theorem V_if_eq (hE : Ok K E Mi d) {a off : Int} (tgt : Nat) (hd : decode Mi.2.1 pc = .ok (.ifCond .eq off, 3)) (ht : (pc : Int) + off = (tgt : Int)) (hr : InI a) (kt : a = 0 → V K E Mi tgt L st σ) (kf : ¬ a = 0 → V K E Mi (pc + 3) L st σ) : V K E Mi pc L (.int (i32 a) :: st) σ :=
  fun H locs ls hP hS hl => lv_if_eq hE.1 hE.2.1 hd ht (fun h => kt ((i32_z hr).mp h) H locs ls hP hS hl) (fun h => kf (fun q => h ((i32_z hr).mpr q)) H locs ls hP hS hl)
theorem V_if_ne (hE : Ok K E Mi d) {a off : Int} (tgt : Nat) (hd : decode Mi.2.1 pc = .ok (.ifCond .ne off, 3)) (ht : (pc : Int) + off = (tgt : Int)) (hr : InI a) (kt : ¬ a = 0 → V K E Mi tgt L st σ) (kf : a = 0 → V K E Mi (pc + 3) L st σ) : V K E Mi pc L (.int (i32 a) :: st) σ :=
  fun H locs ls hP hS hl => lv_if_ne hE.1 hE.2.1 hd ht (fun h => kt (fun q => h ((i32_z hr).mpr q)) H locs ls hP hS hl) (fun h => kf ((i32_z hr).mp h) H locs ls hP hS hl)
theorem V_if_lt (hE : Ok K E Mi d) {a off : Int} (tgt : Nat) (hd : decode Mi.2.1 pc = .ok (.ifCond .lt off, 3)) (ht : (pc : Int) + off = (tgt : Int)) (hr : InI a) (kt : a < 0 → V K E Mi tgt L st σ) (kf : 0 ≤ a → V K E Mi (pc + 3) L st σ) : V K E Mi pc L (.int (i32 a) :: st) σ :=
  fun H locs ls hP hS hl => lv_if_lt hE.1 hE.2.1 hd ht (fun h => kt ((i32_lt (b := 0) hr ⟨by omega, by omega⟩).mp h) H locs ls hP hS hl) (fun h => kf (Int.not_lt.mp fun q => h ((i32_lt (b := 0) hr ⟨by omega, by omega⟩).mpr q)) H locs ls hP hS hl)
theorem V_if_ge (hE : Ok K E Mi d) {a off : Int} (tgt : Nat) (hd : decode Mi.2.1 pc = .ok (.ifCond .ge off, 3)) (ht : (pc : Int) + off = (tgt : Int)) (hr : InI a) (kt : 0 ≤ a → V K E Mi tgt L st σ) (kf : a < 0 → V K E Mi (pc + 3) L st σ) : V K E Mi pc L (.int (i32 a) :: st) σ :=
  fun H locs ls hP hS hl => lv_if_ge hE.1 hE.2.1 hd ht (fun h => kt ((i32_le (a := 0) ⟨by omega, by omega⟩ hr).mp h) H locs ls hP hS hl) (fun h => kf (Int.not_le.mp fun q => h ((i32_le (a := 0) ⟨by omega, by omega⟩ hr).mpr q)) H locs ls hP hS hl)
theorem V_if_gt (hE : Ok K E Mi d) {a off : Int} (tgt : Nat) (hd : decode Mi.2.1 pc = .ok (.ifCond .gt off, 3)) (ht : (pc : Int) + off = (tgt : Int)) (hr : InI a) (kt : 0 < a → V K E Mi tgt L st σ) (kf : a ≤ 0 → V K E Mi (pc + 3) L st σ) : V K E Mi pc L (.int (i32 a) :: st) σ :=
  fun H locs ls hP hS hl => lv_if_gt hE.1 hE.2.1 hd ht (fun h => kt ((i32_lt (a := 0) ⟨by omega, by omega⟩ hr).mp h) H locs ls hP hS hl) (fun h => kf (Int.not_lt.mp fun q => h ((i32_lt (a := 0) ⟨by omega, by omega⟩ hr).mpr q)) H locs ls hP hS hl)
theorem V_if_le (hE : Ok K E Mi d) {a off : Int} (tgt : Nat) (hd : decode Mi.2.1 pc = .ok (.ifCond .le off, 3)) (ht : (pc : Int) + off = (tgt : Int)) (hr : InI a) (kt : a ≤ 0 → V K E Mi tgt L st σ) (kf : 0 < a → V K E Mi (pc + 3) L st σ) : V K E Mi pc L (.int (i32 a) :: st) σ :=
  fun H locs ls hP hS hl => lv_if_le hE.1 hE.2.1 hd ht (fun h => kt ((i32_le (b := 0) hr ⟨by omega, by omega⟩).mp h) H locs ls hP hS hl) (fun h => kf (Int.not_le.mp fun q => h ((i32_le (b := 0) hr ⟨by omega, by omega⟩).mpr q)) H locs ls hP hS hl)
theorem V_lcmp_ge (hE : Ok K E Mi d) {a b off : Int} (tgt : Nat) (hc : decode Mi.2.1 pc = .ok (.lcmp, 1)) (hd : decode Mi.2.1 (pc + 1) = .ok (.ifCond .ge off, 3)) (ht : ((pc + 1 : Nat) : Int) + off = (tgt : Int)) (hr : InL a ∧ InL b) (kt : b ≤ a → V K E Mi tgt L st σ) (kf : a < b → V K E Mi (pc + 4) L st σ) : V K E Mi pc L (.long (i64 b) :: .long (i64 a) :: st) σ :=
  fun H locs ls hP hS hl => W.lcmp hE.1 hE.2.1 hc (lv_if_ge hE.1 hE.2.1 hd ht (fun h => kt ((i64_le hr.2 hr.1).mp ((lg_cmp_ge _ _).mp h)) H locs ls hP hS hl) (fun h => kf (Int.not_le.mp fun q => h ((lg_cmp_ge _ _).mpr ((i64_le hr.2 hr.1).mpr q))) H locs ls hP hS hl))
theorem V_lcmp_lt (hE : Ok K E Mi d) {a b off : Int} (tgt : Nat) (hc : decode Mi.2.1 pc = .ok (.lcmp, 1)) (hd : decode Mi.2.1 (pc + 1) = .ok (.ifCond .lt off, 3)) (ht : ((pc + 1 : Nat) : Int) + off = (tgt : Int)) (hr : InL a ∧ InL b) (kt : a < b → V K E Mi tgt L st σ) (kf : b ≤ a → V K E Mi (pc + 4) L st σ) : V K E Mi pc L (.long (i64 b) :: .long (i64 a) :: st) σ :=
  fun H locs ls hP hS hl => W.lcmp hE.1 hE.2.1 hc (lv_if_lt hE.1 hE.2.1 hd ht (fun h => kt ((i64_lt hr.1 hr.2).mp ((lg_cmp_lt _ _).mp h)) H locs ls hP hS hl) (fun h => kf (Int.not_lt.mp fun q => h ((lg_cmp_lt _ _).mpr ((i64_lt hr.1 hr.2).mpr q))) H locs ls hP hS hl))
theorem V_lcmp_gt (hE : Ok K E Mi d) {a b off : Int} (tgt : Nat) (hc : decode Mi.2.1 pc = .ok (.lcmp, 1)) (hd : decode Mi.2.1 (pc + 1) = .ok (.ifCond .gt off, 3)) (ht : ((pc + 1 : Nat) : Int) + off = (tgt : Int)) (hr : InL a ∧ InL b) (kt : b < a → V K E Mi tgt L st σ) (kf : a ≤ b → V K E Mi (pc + 4) L st σ) : V K E Mi pc L (.long (i64 b) :: .long (i64 a) :: st) σ :=
  fun H locs ls hP hS hl => W.lcmp hE.1 hE.2.1 hc (lv_if_gt hE.1 hE.2.1 hd ht (fun h => kt ((i64_lt hr.2 hr.1).mp ((lg_cmp_gt _ _).mp h)) H locs ls hP hS hl) (fun h => kf (Int.not_lt.mp fun q => h ((lg_cmp_gt _ _).mpr ((i64_lt hr.2 hr.1).mpr q))) H locs ls hP hS hl))
theorem V_lcmp_le (hE : Ok K E Mi d) {a b off : Int} (tgt : Nat) (hc : decode Mi.2.1 pc = .ok (.lcmp, 1)) (hd : decode Mi.2.1 (pc + 1) = .ok (.ifCond .le off, 3)) (ht : ((pc + 1 : Nat) : Int) + off = (tgt : Int)) (hr : InL a ∧ InL b) (kt : a ≤ b → V K E Mi tgt L st σ) (kf : b < a → V K E Mi (pc + 4) L st σ) : V K E Mi pc L (.long (i64 b) :: .long (i64 a) :: st) σ :=
  fun H locs ls hP hS hl => W.lcmp hE.1 hE.2.1 hc (lv_if_le hE.1 hE.2.1 hd ht (fun h => kt ((i64_le hr.1 hr.2).mp ((lg_cmp_le _ _).mp h)) H locs ls hP hS hl) (fun h => kf (Int.not_le.mp fun q => h ((lg_cmp_le _ _).mpr ((i64_le hr.1 hr.2).mpr q))) H locs ls hP hS hl))
theorem V_lcmp_eq (hE : Ok K E Mi d) {a b off : Int} (tgt : Nat) (hc : decode Mi.2.1 pc = .ok (.lcmp, 1)) (hd : decode Mi.2.1 (pc + 1) = .ok (.ifCond .eq off, 3)) (ht : ((pc + 1 : Nat) : Int) + off = (tgt : Int)) (hr : InL a ∧ InL b) (kt : a = b → V K E Mi tgt L st σ) (kf : ¬ a = b → V K E Mi (pc + 4) L st σ) : V K E Mi pc L (.long (i64 b) :: .long (i64 a) :: st) σ :=
  fun H locs ls hP hS hl => W.lcmp hE.1 hE.2.1 hc (lv_if_eq hE.1 hE.2.1 hd ht (fun h => kt ((i64_eq hr.1 hr.2).mp ((lg_cmp_eq _ _).mp h)) H locs ls hP hS hl) (fun h => kf (fun q => h ((lg_cmp_eq _ _).mpr ((i64_eq hr.1 hr.2).mpr q))) H locs ls hP hS hl))
theorem V_lcmp_ne (hE : Ok K E Mi d) {a b off : Int} (tgt : Nat) (hc : decode Mi.2.1 pc = .ok (.lcmp, 1)) (hd : decode Mi.2.1 (pc + 1) = .ok (.ifCond .ne off, 3)) (ht : ((pc + 1 : Nat) : Int) + off = (tgt : Int)) (hr : InL a ∧ InL b) (kt : ¬ a = b → V K E Mi tgt L st σ) (kf : a = b → V K E Mi (pc + 4) L st σ) : V K E Mi pc L (.long (i64 b) :: .long (i64 a) :: st) σ :=
  fun H locs ls hP hS hl => W.lcmp hE.1 hE.2.1 hc (lv_if_ne hE.1 hE.2.1 hd ht (fun h => kt (fun q => h ((lg_cmp_eq _ _).mpr ((i64_eq hr.1 hr.2).mpr q))) H locs ls hP hS hl) (fun h => kf ((i64_eq hr.1 hr.2).mp ((lg_cmp_eq _ _).mp h)) H locs ls hP hS hl))
theorem V_tableOut (hE : Ok K E Mi d) {a dflt lo hi : Int} {offs : Array Int} {len : Nat} (tgt : Nat) (hd : decode Mi.2.1 pc = .ok (.tableswitch dflt lo hi offs, len)) (hr : InI a) (h : a < lo ∨ hi < a) (ht : (pc : Int) + dflt = (tgt : Int)) (k : V K E Mi tgt L st σ) : V K E Mi pc L (.int (i32 a) :: st) σ :=
  fun H locs ls hP hS hl => lv_tableOut hE.1 hE.2.1 hd (by rw [i32_toInt hr]; exact h) ht (k H locs ls hP hS hl)
theorem V_tableIn (hE : Ok K E Mi d) {a dflt lo hi : Int} {offs : Array Int} {len : Nat} {off : Int} (tgt : Nat) (hd : decode Mi.2.1 pc = .ok (.tableswitch dflt lo hi offs, len)) (hr : InI a) (h1 : lo ≤ a) (h2 : a ≤ hi) (ho : offs[(a - lo).toNat]? = some off) (ht : (pc : Int) + off = (tgt : Int)) (k : V K E Mi tgt L st σ) : V K E Mi pc L (.int (i32 a) :: st) σ :=
  fun H locs ls hP hS hl => lv_tableIn hE.1 hE.2.1 hd (by rw [i32_toInt hr]; omega) (by rw [i32_toInt hr]; omega) (by rw [i32_toInt hr]; exact ho) ht (k H locs ls hP hS hl)
end VROWS
end
section
section VHEAP
variable {K : Ctx} {E : ME} {Mi : MI} {d pc : Nat} {L : List (Option Value)} {st : List Value} {σ : Sto}
theorem ent_int {K : Ctx} {σ : Sto} {k n : Nat} (h : sh k = (0, n, [])) : ent K σ k = .inl (kI K, n, .inl (fun i => i32 (σ k i))) := by rw [ent, h]; rfl
theorem ent_long {K : Ctx} {σ : Sto} {k n : Nat} (h : sh k = (1, n, [])) : ent K σ k = .inl (kJ K, n, .inr (.inl (fun i => i64 (σ k i)))) := by rw [ent, h]; rfl
theorem ent_bool {K : Ctx} {σ : Sto} {k n : Nat} (h : sh k = (2, n, [])) : ent K σ k = .inl (kZ K, n, .inl (fun i => i32 (σ k i))) := by rw [ent, h]; rfl
theorem sh_lt {k a n : Nat} {fs : List (Nat × Nat)} (h : sh k = (a, n, fs)) (hn : a ≠ 0 ∨ n ≠ 0) : k < 32 := by
  rcases Nat.lt_or_ge k 32 with h1 | h1
  · exact h1
  · exfalso
    obtain ⟨j, rfl⟩ : ∃ j, k = j + 32 := ⟨k - 32, by omega⟩
    rw [show sh (j + 32) = (0, 0, []) from rfl] at h
    cases h
    omega
theorem sh_le : ∀ k, k < 32 → (sh k).2.1 < 4000 := by decide +kernel
theorem sh_n {k a n : Nat} {fs : List (Nat × Nat)} (h : sh k = (a, n, fs)) (hk : k < 32) : n < 2147483648 := by
  have h1 := sh_le k hk
  rw [h] at h1
  have h2 : n < 4000 := h1
  omega
theorem V_iaload (hE : Ok K E Mi d) {k n : Nat} {i : Int} (hd : decode Mi.2.1 pc = .ok (.iaload, 1)) (hs : sh k = (0, n, [])) (hi : 0 ≤ i ∧ i < n) (kk : V K E Mi (pc + 1) L (.int (i32 (σ k i.toNat)) :: st) σ) : V K E Mi pc L (.int (i32 i) :: .ref (kA K k) :: st) σ := by
  intro H locs ls hP hS hl
  have hk := sh_lt hs (Or.inr (by omega))
  have hn := sh_n hs hk
  refine va_iald (f := fun i => i32 (σ k i)) hE.1 hE.2.1 hE.2.2.2.2.2.1.1 hP k 0 (by rw [wld_get K σ hk, ent_int hs]) rfl (i32_in hi hn) hd ?_
  rw [i32_cl ⟨by omega, by omega⟩]
  exact kk H locs ls hP hS hl
theorem V_baload (hE : Ok K E Mi d) {k n : Nat} {i : Int} (hd : decode Mi.2.1 pc = .ok (.baload, 1)) (hs : sh k = (2, n, [])) (hi : 0 ≤ i ∧ i < n) (kk : V K E Mi (pc + 1) L (.int (i32 (σ k i.toNat)) :: st) σ) : V K E Mi pc L (.int (i32 i) :: .ref (kA K k) :: st) σ := by
  intro H locs ls hP hS hl
  have hk := sh_lt hs (Or.inl (by decide))
  have hn := sh_n hs hk
  refine va_zald (f := fun i => i32 (σ k i)) hE.1 hE.2.1 hE.2.2.2.2.2.1.1 hP k 2 (by rw [wld_get K σ hk, ent_bool hs]) rfl (i32_in hi hn) hd ?_
  rw [i32_cl ⟨by omega, by omega⟩]
  exact kk H locs ls hP hS hl
theorem V_laload (hE : Ok K E Mi d) {k n : Nat} {i : Int} (hd : decode Mi.2.1 pc = .ok (.laload, 1)) (hs : sh k = (1, n, [])) (hi : 0 ≤ i ∧ i < n) (kk : V K E Mi (pc + 1) L (.long (i64 (σ k i.toNat)) :: st) σ) : V K E Mi pc L (.int (i32 i) :: .ref (kA K k) :: st) σ := by
  intro H locs ls hP hS hl
  have hk := sh_lt hs (Or.inl (by decide))
  have hn := sh_n hs hk
  refine va_lald (f := fun i => i64 (σ k i)) hE.1 hE.2.1 hE.2.2.2.2.2.1.1 hP k 1 (by rw [wld_get K σ hk, ent_long hs]) rfl (i32_in hi hn) hd ?_
  rw [i32_cl ⟨by omega, by omega⟩]
  exact kk H locs ls hP hS hl
theorem V_alen (hE : Ok K E Mi d) {k n : Nat} (hd : decode Mi.2.1 pc = .ok (.arraylength, 1)) (hs : sh k = (0, n, [])) (hn : n ≠ 0) (kk : V K E Mi (pc + 1) L (.int (i32 n) :: st) σ) : V K E Mi pc L (.ref (kA K k) :: st) σ := by
  intro H locs ls hP hS hl
  have hk := sh_lt hs (Or.inr hn)
  exact va_alen (v := i32 n) hE.1 hE.2.1 hE.2.2.2.2.2.1.1 hP k 0 (by rw [wld_get K σ hk, ent_int hs]) rfl (by first | rfl | exact (Int32.ofInt_eq_ofNat).symm | simp [i32]) hd (kk H locs ls hP hS hl)
theorem ent_int_up {k n i : Nat} {v : Int} (hs : sh k = (0, n, [])) : ent K (up σ k i v) k = .inl (kI K, n, .inl (upd (fun i => i32 (σ k i)) i (i32 v))) := by
  rw [ent_int hs]
  congr 4
  funext j
  by_cases h : j = i <;> simp [up, upd, h]
theorem ent_bool_up {k n i : Nat} {v : Int} (hs : sh k = (2, n, [])) : ent K (up σ k i v) k = .inl (kZ K, n, .inl (upd (fun i => i32 (σ k i)) i (i32 v))) := by
  rw [ent_bool hs]
  congr 4
  funext j
  by_cases h : j = i <;> simp [up, upd, h]
theorem ent_long_up {k n i : Nat} {v : Int} (hs : sh k = (1, n, [])) : ent K (up σ k i v) k = .inl (kJ K, n, .inr (.inl (vp_updL (fun i => i64 (σ k i)) i (i64 v)))) := by
  rw [ent_long hs]
  congr 5
  funext j
  by_cases h : j = i <;> simp [up, vp_updL, h]
theorem V_iastore (hE : Ok K E Mi d) {k n : Nat} {i v : Int} (hd : decode Mi.2.1 pc = .ok (.iastore, 1)) (hs : sh k = (0, n, [])) (hi : 0 ≤ i ∧ i < n) (kk : V K E Mi (pc + 1) L st (up σ k i.toNat v)) : V K E Mi pc L (.int (i32 v) :: .int (i32 i) :: .ref (kA K k) :: st) σ := by
  intro H locs ls hP hS hl
  have hk := sh_lt hs (Or.inr (by omega))
  have hn := sh_n hs hk
  refine va_iast (f := fun i => i32 (σ k i)) hE.1 hE.2.1 hE.2.2.2.2.2.1.1 hP (wld_D hE.2.2.2.2.2.1.2.2.2 hE.2.2.2.2.2.2.2 σ) hS k 0 (by rw [wld_get K σ hk, ent_int hs]) rfl (i32_in hi hn) hd ?_
  rw [i32_cl ⟨by omega, by omega⟩, wld_set hk (ent_arr_ne (by omega)) (ent_int_up hs)]
  exact fun H1 locs1 h1 _ h3 => kk H1 locs1 ls h1 h3 hl
theorem nar_bool {v : Int} (h : v = 0 ∨ v = 1) : vp_nar .boolean (i32 v) = i32 v := by rcases h with rfl | rfl <;> rfl
theorem V_bastore (hE : Ok K E Mi d) {k n : Nat} {i v : Int} (hd : decode Mi.2.1 pc = .ok (.bastore, 1)) (hs : sh k = (2, n, [])) (hi : 0 ≤ i ∧ i < n) (hv : v = 0 ∨ v = 1) (kk : V K E Mi (pc + 1) L st (up σ k i.toNat v)) : V K E Mi pc L (.int (i32 v) :: .int (i32 i) :: .ref (kA K k) :: st) σ := by
  intro H locs ls hP hS hl
  have hk := sh_lt hs (Or.inl (by decide))
  have hn := sh_n hs hk
  refine va_zast (f := fun i => i32 (σ k i)) hE.1 hE.2.1 hE.2.2.2.2.2.1.1 hP (wld_D hE.2.2.2.2.2.1.2.2.2 hE.2.2.2.2.2.2.2 σ) hS k 2 (by rw [wld_get K σ hk, ent_bool hs]) rfl (i32_in hi hn) hd ?_
  rw [i32_cl ⟨by omega, by omega⟩, nar_bool hv, wld_set hk (ent_arr_ne (by omega)) (ent_bool_up hs)]
  exact fun H1 locs1 h1 _ h3 => kk H1 locs1 ls h1 h3 hl
theorem V_lastore (hE : Ok K E Mi d) {k n : Nat} {i v : Int} (hd : decode Mi.2.1 pc = .ok (.lastore, 1)) (hs : sh k = (1, n, [])) (hi : 0 ≤ i ∧ i < n) (kk : V K E Mi (pc + 1) L st (up σ k i.toNat v)) : V K E Mi pc L (.long (i64 v) :: .int (i32 i) :: .ref (kA K k) :: st) σ := by
  intro H locs ls hP hS hl
  have hk := sh_lt hs (Or.inl (by decide))
  have hn := sh_n hs hk
  refine va_last (f := fun i => i64 (σ k i)) hE.1 hE.2.1 hE.2.2.2.2.2.1.1 hP (wld_D hE.2.2.2.2.2.1.2.2.2 hE.2.2.2.2.2.2.2 σ) hS k 1 (by rw [wld_get K σ hk, ent_long hs]) rfl (i32_in hi hn) hd ?_
  rw [i32_cl ⟨by omega, by omega⟩, wld_set hk (ent_arr_ne (by omega)) (ent_long_up hs)]
  exact fun H1 locs1 h1 _ h3 => kk H1 locs1 ls h1 h3 hl
/-- a field is read: object k of class ci, its field j -/
theorem V_get (hE : Ok K E Mi d) {k ci j index N : Nat} {ref C : String} {T : u_T} {fs : List (Nat × Nat)} {f : Nat × Nat} (hs : sh k = (3, ci, fs)) (hf : fs[j]? = some f) (hc : vwCl[ci]? = some (C, T, N)) (hj : Nat.blt j N = true) (hin : ∀ w ∈ u_ws C T N, w ∈ TW)
    (hlink : Cond.fieldLink Mi.1.cls index ref (T j).2.1 (T j).2.2.1 ∈ TW) (href : (T j).1 = ref) (hd : decode Mi.2.1 pc = .ok (.getfield index, 3)) (kk : V K E Mi (pc + 3) L (fv K σ f :: st) σ) : V K E Mi pc L (.ref (kA K k) :: st) σ := by
  intro H locs ls hP hS hl
  have hk := sh_lt hs (Or.inl (by decide))
  exact va_get (v := fv K σ f) hE.1 hE.2.1 hE.2.2.2.2.1 hin hE.2.2.2.1 hE.2.2.2.2.2.1.1 hP k (fs := fs.map (fv K σ)) (by rw [wld_get K σ hk, ent, hs]; rfl) hc j (Nat.le_of_ble_eq_true hj) (hE.2.2.2.2.1 _ hlink) (fun _ h => by rw [← href]; exact h) (by rw [List.getElem?_map, hf]; rfl) hd (kk H locs ls hP hS hl)
theorem V_getN (hE : Ok K E Mi d) {k ci j index N : Nat} {ref C host : String} {T : u_T} {fs : List (Nat × Nat)} {f : Nat × Nat} (hs : sh k = (3, ci, fs)) (hf : fs[j]? = some f) (hc : vwCl[ci]? = some (C, T, N)) (hj : Nat.blt j N = true) (hin : ∀ w ∈ u_ws C T N, w ∈ TW)
    (hlink : Cond.fieldLinkNest Mi.1.cls index ref (T j).2.1 (T j).2.2.1 host ∈ nwL) (href : (T j).1 = ref) (hd : decode Mi.2.1 pc = .ok (.getfield index, 3)) (kk : V K E Mi (pc + 3) L (fv K σ f :: st) σ) : V K E Mi pc L (.ref (kA K k) :: st) σ := by
  intro H locs ls hP hS hl
  have hk := sh_lt hs (Or.inl (by decide))
  exact va_getN (v := fv K σ f) hE.1 hE.2.1 hE.2.2.2.2.1 hin hE.2.2.2.1 hE.2.2.2.2.2.1.1 hP k (fs := fs.map (fv K σ)) (by rw [wld_get K σ hk, ent, hs]; rfl) hc j (Nat.le_of_ble_eq_true hj) (va_Nw.use rfl (hE.2.2.2.2.2.1.2.1 _ hlink)) (fun _ h => by rw [← href]; exact h) (by rw [List.getElem?_map, hf]; rfl) hd (kk H locs ls hP hS hl)
/-- a number of an object is written -/
theorem V_put (hE : Ok K E Mi d) {k ci j index N dd : Nat} {ref C : String} {T : u_T} {fs : List (Nat × Nat)} {ty0 : Nat → FieldType} {x : Int} (hs : sh k = (3, ci, fs)) (hc : vwCl[ci]? = some (C, T, N)) (hj : Nat.blt j N = true) (hin : ∀ w ∈ u_ws C T N, w ∈ TW)
    (hty : ∀ k, k < N → parseFieldDescriptor (T k).2.2.1 = some (ty0 k)) (hnm : ∀ a, a < N → ∀ b, b < N → a ≠ b → (T a).2.1 ≠ (T b).2.1) (hlink : Cond.fieldLink Mi.1.cls index ref (T j).2.1 (T j).2.2.1 ∈ TW) (href : (T j).1 = ref) (hfin : (T j).2.2.2 = false)
    (hd0 : parseFieldDescriptor (T j).2.2.1 = some .int) (hlen : Nat.blt j fs.length = true) (hdd : 100 ≤ dd) (hot : ∀ k', k' < 32 → k' ≠ k → ∀ f ∈ (sh k').2.2, f.1 = 0 ∨ f.2 ≠ dd) (hset : ∀ v : Int, fs.map (fv K (up σ dd 0 v)) = (fs.map (fv K σ)).set j (.int (i32 v)))
    (hd : decode Mi.2.1 pc = .ok (.putfield index, 3)) (kk : V K E Mi (pc + 3) L st (up σ dd 0 x)) : V K E Mi pc L (.int (i32 x) :: .ref (kA K k) :: st) σ := by
  intro H locs ls hP hS hl
  have hk := sh_lt hs (Or.inl (by decide))
  refine va_put (v := .int (i32 x)) (ty := .int) hE.1 hE.2.1 hE.2.2.2.2.1 hin ty0 hty hnm hE.2.2.2.1 hE.2.2.2.2.2.1.1 hP (wld_D hE.2.2.2.2.2.1.2.2.2 hE.2.2.2.2.2.2.2 σ) hS k (fs := fs.map (fv K σ)) (by rw [wld_get K σ hk, ent, hs]; rfl) hc j (Nat.le_of_ble_eq_true hj) (hE.2.2.2.2.1 _ hlink) (fun _ h => by rw [← href]; exact h) hfin hd0 rfl rfl (by rw [List.length_map]; exact Nat.le_of_ble_eq_true hlen) hd ?_
  rw [wld_set hk (ent_fld_ne hdd hot) (by rw [ent, hs]; show Sum.inr (ci, fs.map (fv K (up σ dd 0 x))) = _; rw [hset])]
  exact fun H1 locs1 h1 _ h3 => kk H1 locs1 ls h1 h3 hl
theorem V_putN (hE : Ok K E Mi d) {k ci j index N dd : Nat} {ref C host : String} {T : u_T} {fs : List (Nat × Nat)} {ty0 : Nat → FieldType} {x : Int} (hs : sh k = (3, ci, fs)) (hc : vwCl[ci]? = some (C, T, N)) (hj : Nat.blt j N = true) (hin : ∀ w ∈ u_ws C T N, w ∈ TW)
    (hty : ∀ k, k < N → parseFieldDescriptor (T k).2.2.1 = some (ty0 k)) (hnm : ∀ a, a < N → ∀ b, b < N → a ≠ b → (T a).2.1 ≠ (T b).2.1) (hlink : Cond.fieldLinkNest Mi.1.cls index ref (T j).2.1 (T j).2.2.1 host ∈ nwL) (href : (T j).1 = ref) (hfin : (T j).2.2.2 = false)
    (hd0 : parseFieldDescriptor (T j).2.2.1 = some .int) (hlen : Nat.blt j fs.length = true) (hdd : 100 ≤ dd) (hot : ∀ k', k' < 32 → k' ≠ k → ∀ f ∈ (sh k').2.2, f.1 = 0 ∨ f.2 ≠ dd) (hset : ∀ v : Int, fs.map (fv K (up σ dd 0 v)) = (fs.map (fv K σ)).set j (.int (i32 v)))
    (hd : decode Mi.2.1 pc = .ok (.putfield index, 3)) (kk : V K E Mi (pc + 3) L st (up σ dd 0 x)) : V K E Mi pc L (.int (i32 x) :: .ref (kA K k) :: st) σ := by
  intro H locs ls hP hS hl
  have hk := sh_lt hs (Or.inl (by decide))
  refine va_putN (v := .int (i32 x)) (ty := .int) hE.1 hE.2.1 hE.2.2.2.2.1 hin ty0 hty hnm hE.2.2.2.1 hE.2.2.2.2.2.1.1 hP (wld_D hE.2.2.2.2.2.1.2.2.2 hE.2.2.2.2.2.2.2 σ) hS k (fs := fs.map (fv K σ)) (by rw [wld_get K σ hk, ent, hs]; rfl) hc j (Nat.le_of_ble_eq_true hj) (va_Nw.use rfl (hE.2.2.2.2.2.1.2.1 _ hlink)) (fun _ h => by rw [← href]; exact h) hfin hd0 rfl rfl (by rw [List.length_map]; exact Nat.le_of_ble_eq_true hlen) hd ?_
  rw [wld_set hk (ent_fld_ne hdd hot) (by rw [ent, hs]; show Sum.inr (ci, fs.map (fv K (up σ dd 0 x))) = _; rw [hset])]
  exact fun H1 locs1 h1 _ h3 => kk H1 locs1 ls h1 h3 hl
theorem V_putL (hE : Ok K E Mi d) {k ci j index N dd : Nat} {ref C : String} {T : u_T} {fs : List (Nat × Nat)} {ty0 : Nat → FieldType} {x : Int} (hs : sh k = (3, ci, fs)) (hc : vwCl[ci]? = some (C, T, N)) (hj : Nat.blt j N = true) (hin : ∀ w ∈ u_ws C T N, w ∈ TW)
    (hty : ∀ k, k < N → parseFieldDescriptor (T k).2.2.1 = some (ty0 k)) (hnm : ∀ a, a < N → ∀ b, b < N → a ≠ b → (T a).2.1 ≠ (T b).2.1) (hlink : Cond.fieldLink Mi.1.cls index ref (T j).2.1 (T j).2.2.1 ∈ TW) (href : (T j).1 = ref) (hfin : (T j).2.2.2 = false)
    (hd0 : parseFieldDescriptor (T j).2.2.1 = some .long) (hlen : Nat.blt j fs.length = true) (hdd : 100 ≤ dd) (hot : ∀ k', k' < 32 → k' ≠ k → ∀ f ∈ (sh k').2.2, f.1 = 0 ∨ f.2 ≠ dd) (hset : ∀ v : Int, fs.map (fv K (up σ dd 0 v)) = (fs.map (fv K σ)).set j (.long (i64 v)))
    (hd : decode Mi.2.1 pc = .ok (.putfield index, 3)) (kk : V K E Mi (pc + 3) L st (up σ dd 0 x)) : V K E Mi pc L (.long (i64 x) :: .ref (kA K k) :: st) σ := by
  intro H locs ls hP hS hl
  have hk := sh_lt hs (Or.inl (by decide))
  refine va_put (v := .long (i64 x)) (ty := .long) hE.1 hE.2.1 hE.2.2.2.2.1 hin ty0 hty hnm hE.2.2.2.1 hE.2.2.2.2.2.1.1 hP (wld_D hE.2.2.2.2.2.1.2.2.2 hE.2.2.2.2.2.2.2 σ) hS k (fs := fs.map (fv K σ)) (by rw [wld_get K σ hk, ent, hs]; rfl) hc j (Nat.le_of_ble_eq_true hj) (hE.2.2.2.2.1 _ hlink) (fun _ h => by rw [← href]; exact h) hfin hd0 rfl rfl (by rw [List.length_map]; exact Nat.le_of_ble_eq_true hlen) hd ?_
  rw [wld_set hk (ent_fld_ne hdd hot) (by rw [ent, hs]; show Sum.inr (ci, fs.map (fv K (up σ dd 0 x))) = _; rw [hset])]
  exact fun H1 locs1 h1 _ h3 => kk H1 locs1 ls h1 h3 hl
/-- the two static arrays -/
theorem V_low (hE : Ok K E Mi d) {index : Nat} (hlink : Cond.fieldLink Mi.1.cls index "HullOffsets" "SETTING_LOW" "[I" ∈ TW) (hd : decode Mi.2.1 pc = .ok (.getstatic index, 3)) (kk : V K E Mi (pc + 3) L (.ref (kLow K) :: st) σ) : V K E Mi pc L st σ :=
  fun H locs ls hP hS hl => va_gets hE.1 hE.2.1 hE.2.2.2.2.2.1.2.2.1.1.1 hS hE.2.2.2.1 (hE.2.2.2.2.1 _ hlink) (fun _ h => h) hd (kk H locs ls hP hS hl)
theorem V_top (hE : Ok K E Mi d) {index : Nat} (hlink : Cond.fieldLink Mi.1.cls index "HullOffsets" "SETTING_TOP" "[I" ∈ TW) (hd : decode Mi.2.1 pc = .ok (.getstatic index, 3)) (kk : V K E Mi (pc + 3) L (.ref (kTop K) :: st) σ) : V K E Mi pc L st σ :=
  fun H locs ls hP hS hl => va_gets hE.1 hE.2.1 hE.2.2.2.2.2.1.2.2.1.2.1 hS hE.2.2.2.1 (hE.2.2.2.2.1 _ hlink) (fun _ h => h) hd (kk H locs ls hP hS hl)
theorem V_lowAt (hE : Ok K E Mi d) {i : Int} (hd : decode Mi.2.1 pc = .ok (.iaload, 1)) (hi : 0 ≤ i ∧ i < 4) (kk : V K E Mi (pc + 1) L (.int (i32 (if i < 2 then 0 else 1)) :: st) σ) : V K E Mi pc L (.int (i32 i) :: .ref (kLow K) :: st) σ := by
  intro H locs ls hP hS hl
  refine va_ti (v := .int (i32 (if i < 2 then 0 else 1))) hE.1 hE.2.1 hE.2.2.2.2.2.1.2.2.1.1.2 hS (i32_in (n := 4) hi (by decide)) ?_ hd (kk H locs ls hP hS hl)
  rw [i32_cl ⟨by omega, by omega⟩]
  by_cases h : i < 2
  · rw [if_pos h, if_pos (by omega)]
  · rw [if_neg h, if_neg (by omega)]
theorem V_topAt (hE : Ok K E Mi d) {i : Int} (hd : decode Mi.2.1 pc = .ok (.iaload, 1)) (hi : 0 ≤ i ∧ i < 4) (kk : V K E Mi (pc + 1) L (.int (i32 (if i = 0 then 999 else if i = 1 then 3 else 99)) :: st) σ) : V K E Mi pc L (.int (i32 i) :: .ref (kTop K) :: st) σ := by
  intro H locs ls hP hS hl
  refine va_ti (v := .int (i32 (if i = 0 then 999 else if i = 1 then 3 else 99))) hE.1 hE.2.1 hE.2.2.2.2.2.1.2.2.1.2.2 hS (i32_in (n := 4) hi (by decide)) ?_ hd (kk H locs ls hP hS hl)
  rw [i32_cl ⟨by omega, by omega⟩]
  rcases (show i = 0 ∨ i = 1 ∨ i = 2 ∨ i = 3 by omega) with rfl | rfl | rfl | rfl <;> rfl
end VHEAP
end
section
/-! CONTRACTS over the pure store -/
def QcI (K : Ctx) (post : Int → Sto → Prop) : Array Value → State → Outcome → State → Prop := va_Qi (S := Int × Sto) (fun r u => r = i32 u.1 ∧ post u.1 u.2) (fun u t => va_P K.1 vwCl (wld K u.2) t.heap) (Own K)
def QcL (K : Ctx) (post : Int → Sto → Prop) : Array Value → State → Outcome → State → Prop := va_Ql (S := Int × Sto) (fun r u => r = i64 u.1 ∧ post u.1 u.2) (fun u t => va_P K.1 vwCl (wld K u.2) t.heap) (Own K)
def QcV (K : Ctx) (post : Sto → Prop) : Array Value → State → Outcome → State → Prop := va_Qv (S := Sto) post (fun u t => va_P K.1 vwCl (wld K u) t.heap) (Own K)
def PcK (K : Ctx) (As : List Value) (σ : Sto) : Array Value → State → Prop := va_Pc As (fun U => va_P K.1 vwCl (wld K σ) U.heap ∧ KU K (Own K) U U.heap)
def CtI (K : Ctx) (Mi : MI) (d : Nat) (As : List Value) (σ : Sto) (post : Int → Sto → Prop) : Prop := ∀ l : Launch, Met l Mi.1 (wsM Mi) (rmD d) (PcK K As σ) (QcI K post) 0 0 (Own K)
def CtL (K : Ctx) (Mi : MI) (d : Nat) (As : List Value) (σ : Sto) (post : Int → Sto → Prop) : Prop := ∀ l : Launch, Met l Mi.1 (wsM Mi) (rmD d) (PcK K As σ) (QcL K post) 0 0 (Own K)
def CtV (K : Ctx) (Mi : MI) (d : Nat) (As : List Value) (σ : Sto) (post : Sto → Prop) : Prop := ∀ l : Launch, Met l Mi.1 (wsM Mi) (rmD d) (PcK K As σ) (QcV K post) 0 0 (Own K)
def RetI (K : Ctx) (E : ME) (Mi : MI) (post : Int → Sto → Prop) : Prop := ∀ (pc : Nat) (ls : Array Slot) (H : Heap) (locs : List Loc) (r : Int) (σ : Sto), decode Mi.2.1 pc = .ok (.ireturn, 1) → post r σ → va_P K.1 vwCl (wld K σ) H → va_S (eA E) (eS E).heap H locs → WE E H locs (F0 (eM E) pc ls [.int (i32 r)])
def RetZ (K : Ctx) (E : ME) (Mi : MI) (post : Int → Sto → Prop) : Prop := ∀ (pc : Nat) (ls : Array Slot) (H : Heap) (locs : List Loc) (r : Int) (σ : Sto), decode Mi.2.1 pc = .ok (.ireturn, 1) → (r = 0 ∨ r = 1) → post r σ → va_P K.1 vwCl (wld K σ) H → va_S (eA E) (eS E).heap H locs → WE E H locs (F0 (eM E) pc ls [.int (i32 r)])
def RetL (K : Ctx) (E : ME) (Mi : MI) (post : Int → Sto → Prop) : Prop := ∀ (pc : Nat) (ls : Array Slot) (H : Heap) (locs : List Loc) (r : Int) (σ : Sto), decode Mi.2.1 pc = .ok (.lreturn, 1) → post r σ → va_P K.1 vwCl (wld K σ) H → va_S (eA E) (eS E).heap H locs → WE E H locs (F0 (eM E) pc ls [.long (i64 r)])
def RetV (K : Ctx) (E : ME) (Mi : MI) (post : Sto → Prop) : Prop := ∀ (pc : Nat) (ls : Array Slot) (H : Heap) (locs : List Loc) (σ : Sto), decode Mi.2.1 pc = .ok (.return_, 1) → post σ → va_P K.1 vwCl (wld K σ) H → va_S (eA E) (eS E).heap H locs → WE E H locs (F0 (eM E) pc ls [])
theorem narZ {r : Int} (h : r = 0 ∨ r = 1) : narrow .boolean (.int (i32 r)) = .int (i32 r) := by rcases h with rfl | rfl <;> rfl
section VCT
variable {K : Ctx} {Mi : MI} {d : Nat} {As : List Value} {σ : Sto} {L : List (Option Value)}
theorem CtI_of {post : Int → Sto → Prop} (hy : plainName Mi.1.cls = true) (hret : Mi.2.2.2 = some .int) (hlen : Nat.ble (lg_sl As).length Mi.2.2.1 = true) (hL : al 0 L = lv_args 0 As)
    (h : ∀ E, Ok K E Mi d → RetI K E Mi post → V K E Mi 0 L [] σ) : CtI K Mi d As σ post := by
  intro l
  refine Met.ofW (cc := Mi.2.1) (maxL := Mi.2.2.1) (ret := Mi.2.2.2) hy rfl ?_
  intro p e s m args below meth c s₁ B hml hv
  obtain ⟨rfl, hP, hKU⟩ := hv
  have hts := atoms_spec (ws := wsM Mi) B.pre
  have hl := lv_entry As (n := Mi.2.2.1) (Nat.le_of_ble_eq_true hlen)
  have hlocks := B.notSynchronized
  have hx := B.exec
  have hb := B.bytes
  have hr : meth.sig.returnType = some .int := B.returns.trans hret
  rw [lg_entry_eq]
  rw [← hL] at hl
  exact h (p, l, e, (headSpec (wsM Mi) (rmD d)).room, s, m, As.toArray, below, meth, c, 0, 0, MQ below (QcI K post) As.toArray s 0 0 (Own K), Own K) ⟨B.exec, B.bytes, hml, findClass_of_methodNamed B.named, fun w h => hts w (List.mem_cons_of_mem _ h), hKU, ⟨Nat.le_refl _, Nat.le_refl _, Nat.zero_le _, Nat.zero_le _⟩, fun _ h => h⟩
    (fun pc ls H locs r σ' hd hpost hP' hS' => W.iret (v := i32 r) hx hb hr (fun t ht hW => ⟨⟨i32 r, (r, σ'), rfl, ⟨rfl, hpost⟩, (by show va_P K.1 vwCl (wld K σ') t.heap; rw [ht]; exact hP')⟩, hS'.F ht⟩) hS'.2.2 hd) s.heap [] _ hP va_S.rf hl
theorem CtZ_of {post : Int → Sto → Prop} (hy : plainName Mi.1.cls = true) (hret : Mi.2.2.2 = some .boolean) (hlen : Nat.ble (lg_sl As).length Mi.2.2.1 = true) (hL : al 0 L = lv_args 0 As)
    (h : ∀ E, Ok K E Mi d → RetZ K E Mi post → V K E Mi 0 L [] σ) : CtI K Mi d As σ post := by
  intro l
  refine Met.ofW (cc := Mi.2.1) (maxL := Mi.2.2.1) (ret := Mi.2.2.2) hy rfl ?_
  intro p e s m args below meth c s₁ B hml hv
  obtain ⟨rfl, hP, hKU⟩ := hv
  have hts := atoms_spec (ws := wsM Mi) B.pre
  have hl := lv_entry As (n := Mi.2.2.1) (Nat.le_of_ble_eq_true hlen)
  have hlocks := B.notSynchronized
  have hx := B.exec
  have hb := B.bytes
  have hr : meth.sig.returnType = some .boolean := B.returns.trans hret
  rw [lg_entry_eq]
  rw [← hL] at hl
  exact h (p, l, e, (headSpec (wsM Mi) (rmD d)).room, s, m, As.toArray, below, meth, c, 0, 0, MQ below (QcI K post) As.toArray s 0 0 (Own K), Own K) ⟨B.exec, B.bytes, hml, findClass_of_methodNamed B.named, fun w h => hts w (List.mem_cons_of_mem _ h), hKU, ⟨Nat.le_refl _, Nat.le_refl _, Nat.zero_le _, Nat.zero_le _⟩, fun _ h => h⟩
    (fun pc ls H locs r σ' hd hz hpost hP' hS' => W.zret (v := i32 r) (ty := .boolean) hx hb hr (narZ hz) (fun t ht hW => ⟨⟨i32 r, (r, σ'), rfl, ⟨rfl, hpost⟩, (by show va_P K.1 vwCl (wld K σ') t.heap; rw [ht]; exact hP')⟩, hS'.F ht⟩) hS'.2.2 hd) s.heap [] _ hP va_S.rf hl
theorem CtL_of {post : Int → Sto → Prop} (hy : plainName Mi.1.cls = true) (hret : Mi.2.2.2 = some .long) (hlen : Nat.ble (lg_sl As).length Mi.2.2.1 = true) (hL : al 0 L = lv_args 0 As)
    (h : ∀ E, Ok K E Mi d → RetL K E Mi post → V K E Mi 0 L [] σ) : CtL K Mi d As σ post := by
  intro l
  refine Met.ofW (cc := Mi.2.1) (maxL := Mi.2.2.1) (ret := Mi.2.2.2) hy rfl ?_
  intro p e s m args below meth c s₁ B hml hv
  obtain ⟨rfl, hP, hKU⟩ := hv
  have hts := atoms_spec (ws := wsM Mi) B.pre
  have hl := lv_entry As (n := Mi.2.2.1) (Nat.le_of_ble_eq_true hlen)
  have hlocks := B.notSynchronized
  have hx := B.exec
  have hb := B.bytes
  have hr : meth.sig.returnType = some .long := B.returns.trans hret
  rw [lg_entry_eq]
  rw [← hL] at hl
  exact h (p, l, e, (headSpec (wsM Mi) (rmD d)).room, s, m, As.toArray, below, meth, c, 0, 0, MQ below (QcL K post) As.toArray s 0 0 (Own K), Own K) ⟨B.exec, B.bytes, hml, findClass_of_methodNamed B.named, fun w h => hts w (List.mem_cons_of_mem _ h), hKU, ⟨Nat.le_refl _, Nat.le_refl _, Nat.zero_le _, Nat.zero_le _⟩, fun _ h => h⟩
    (fun pc ls H locs r σ' hd hpost hP' hS' => W.lret (v := i64 r) hx hb hr (fun t ht hW => ⟨⟨i64 r, (r, σ'), rfl, ⟨rfl, hpost⟩, (by show va_P K.1 vwCl (wld K σ') t.heap; rw [ht]; exact hP')⟩, hS'.F ht⟩) hS'.2.2 hd) s.heap [] _ hP va_S.rf hl
theorem CtV_of {post : Sto → Prop} (hy : plainName Mi.1.cls = true) (hret : Mi.2.2.2 = none) (hlen : Nat.ble (lg_sl As).length Mi.2.2.1 = true) (hL : al 0 L = lv_args 0 As)
    (h : ∀ E, Ok K E Mi d → RetV K E Mi post → V K E Mi 0 L [] σ) : CtV K Mi d As σ post := by
  intro l
  refine Met.ofW (cc := Mi.2.1) (maxL := Mi.2.2.1) (ret := Mi.2.2.2) hy rfl ?_
  intro p e s m args below meth c s₁ B hml hv
  obtain ⟨rfl, hP, hKU⟩ := hv
  have hts := atoms_spec (ws := wsM Mi) B.pre
  have hl := lv_entry As (n := Mi.2.2.1) (Nat.le_of_ble_eq_true hlen)
  have hlocks := B.notSynchronized
  have hx := B.exec
  have hb := B.bytes
  have hr : meth.sig.returnType = none := B.returns.trans hret
  rw [lg_entry_eq]
  rw [← hL] at hl
  exact h (p, l, e, (headSpec (wsM Mi) (rmD d)).room, s, m, As.toArray, below, meth, c, 0, 0, MQ below (QcV K post) As.toArray s 0 0 (Own K), Own K) ⟨B.exec, B.bytes, hml, findClass_of_methodNamed B.named, fun w h => hts w (List.mem_cons_of_mem _ h), hKU, ⟨Nat.le_refl _, Nat.le_refl _, Nat.zero_le _, Nat.zero_le _⟩, fun _ h => h⟩
    (fun pc ls H locs σ' hd hpost hP' hS' => W.vret hx hb hr (fun t ht hW => ⟨⟨σ', rfl, hpost, (by show va_P K.1 vwCl (wld K σ') t.heap; rw [ht]; exact hP')⟩, hS'.F ht⟩) hS'.2.2 hd) s.heap [] _ hP va_S.rf hl
end VCT
section VRUN
variable {K : Ctx} {E : ME} {Mi Mc : MI} {d dc pc idx n : Nat} {L : List (Option Value)} {As rest : List Value} {σ : Sto} {Qc : Array Value → State → Outcome → State → Prop}
theorem V_ireturn {post : Int → Sto → Prop} {r : Int} (hR : RetI K E Mi post) (hd : decode Mi.2.1 pc = .ok (.ireturn, 1)) (h : post r σ) : V K E Mi pc L [.int (i32 r)] σ := fun H locs ls hP hS _ => hR pc ls H locs r σ hd h hP hS
theorem V_zreturn {post : Int → Sto → Prop} {r : Int} (hR : RetZ K E Mi post) (hd : decode Mi.2.1 pc = .ok (.ireturn, 1)) (hz : r = 0 ∨ r = 1) (h : post r σ) : V K E Mi pc L [.int (i32 r)] σ := fun H locs ls hP hS _ => hR pc ls H locs r σ hd hz h hP hS
theorem V_lreturn {post : Int → Sto → Prop} {r : Int} (hR : RetL K E Mi post) (hd : decode Mi.2.1 pc = .ok (.lreturn, 1)) (h : post r σ) : V K E Mi pc L [.long (i64 r)] σ := fun H locs ls hP hS _ => hR pc ls H locs r σ hd h hP hS
theorem V_return {post : Sto → Prop} (hR : RetV K E Mi post) (hd : decode Mi.2.1 pc = .ok (.return_, 1)) (h : post σ) : V K E Mi pc L [] σ := fun H locs ls hP hS _ => hR pc ls H locs σ hd h hP hS
theorem KU_pass (hE : Ok K E Mi d) {H : Heap} {locs : List Loc} (hS : va_S (eA E) (eS E).heap H locs) {U : State} (hU : U.heap = H) (hW : (eS E).WarmedH U.vm) : KU K (Own K) U U.heap := by
  obtain ⟨h1, h2, h3, h4⟩ := hE.2.2.2.2.2.1
  refine ⟨va_K.moved hW.alike h1, NwAll.warm hW h2, ?_, h4⟩
  rw [hU]
  exact ((h3.kept hS.2.1).moved hW.alike).narrow hE.2.2.2.2.2.2.2
theorem PcK_blind : FrameBlind (PcK K As σ) := fun a U g mk q => ⟨q.1, q.2.1, va_K.moved (u := U) (U := U.calling g mk a) (Vm.Alike.refl U.vm) q.2.2.1, NwAll.same (u := U) (U := U.calling g mk a) rfl q.2.2.2.1, StU.moved (u := U) (U := U.calling g mk a) (Vm.Alike.refl U.vm) q.2.2.2.2.1, q.2.2.2.2.2⟩
theorem wsM_good (hco : Cond.code Mc.1 Mc.2.1 Mc.2.2.1 Mc.2.2.2 ∈ TW) : GoodIn TW (wsM Mc) := fun w h => TW_good w (by rcases List.mem_cons.mp h with rfl | h; exact hco; exact h)
/-- what a callee's name must be, and its locals -/
abbrev NmOk (Mc : MI) (n : Nat) : Prop := (Mc.1.cls ≠ "java/lang/invoke/MethodHandle" ∧ Mc.1.cls ≠ "java/lang/invoke/VarHandle" ∧ (parseMethodDescriptor Mc.1.desc).map (fun d => d.parameters.length) = some n) ∧ Mc.2.2.1 ≤ 17
theorem room_ok (hE : Ok K E Mi d) (hdc : Nat.blt dc d = true) (hm : Mc.2.2.1 ≤ 17) : (rmD dc).frames + 1 ≤ (eR E).frames ∧ 8 + (Mc.2.2.1 + 11) + (rmD dc).locals ≤ (eR E).locals := by
  obtain ⟨h1, h2, -, -⟩ := hE.2.2.2.2.2.2.1
  have h3 : dc + 1 ≤ d := Nat.le_of_ble_eq_true hdc
  show dc + 1 ≤ _ ∧ 8 + (Mc.2.2.1 + 11) + 36 * dc ≤ _
  omega
theorem run_S (hE : Ok K E Mi d) (hlk : Cond.methodLink Mi.1.cls idx Mc.1 ∈ TW) (hst : Cond.static Mc.1 ∈ TW) (hini : Cond.initialized Mc.1.cls ∈ TW) (hco : Cond.code Mc.1 Mc.2.1 Mc.2.2.1 Mc.2.2.2 ∈ TW) (hnm : NmOk Mc n) (hdc : Nat.blt dc d = true) (hn : As.length = n) (h8 : Nat.ble (rest.map fun v => v.category).sum 8 = true)
    (hM : ∀ l : Launch, Met l Mc.1 (wsM Mc) (rmD dc) (PcK K As σ) Qc 0 0 (Own K)) (hd : decode Mi.2.1 pc = .ok (.invokestatic idx, 3)) {H : Heap} {locs : List Loc} {ls : Array Slot} (hP : va_P K.1 vwCl (wld K σ) H) (hS : va_S (eA E) (eS E).heap H locs) (hl : lv_has ls Mi.2.2.1 (al 0 L)) :
    va_Run (eP E) (eL E) (eE E) (eR E) (eS E) (eM E) (eG E) (eB E) (eT E) (eC E) H locs (eX E) (eY E) 0 0 (F0 (eM E) pc ls (As.reverse ++ rest)) rest (Qc As.toArray) (Own K) :=
  va_runS (g := F0 (eM E) pc ls (As.reverse ++ rest)) ⟨hE.1, hE.2.1, hE.2.2.1, hE.2.2.2.1, hE.2.2.2.2.1⟩ (hM (eL E)) ⟨callB_of n hE.2.2.2.2.1 (wsM_good hco) rfl rfl rfl (hE.2.2.2.2.1 _ hini) (hE.2.2.2.2.1 _ hlk) hnm.1 (room_ok hE hdc hnm.2), hE.2.2.2.2.1 _ hst⟩
    ⟨PcK_blind, fun U hU hW => ⟨rfl, by rw [hU]; exact hP, KU_pass hE hS hU hW⟩⟩ rfl hn hl.1 rfl (lv_room (Nat.le_of_ble_eq_true h8)) hd ⟨hE.2.2.2.2.2.2.1.2.2.1, hE.2.2.2.2.2.2.1.2.2.2⟩
theorem run_SN {host : String} (hE : Ok K E Mi d) (hlk : Cond.methodLinkNest Mi.1.cls idx Mc.1 host ∈ nwL) (hst : Cond.static Mc.1 ∈ TW) (hini : Cond.initialized Mc.1.cls ∈ TW) (hco : Cond.code Mc.1 Mc.2.1 Mc.2.2.1 Mc.2.2.2 ∈ TW) (hnm : NmOk Mc n) (hdc : Nat.blt dc d = true) (hn : As.length = n) (h8 : Nat.ble (rest.map fun v => v.category).sum 8 = true)
    (hM : ∀ l : Launch, Met l Mc.1 (wsM Mc) (rmD dc) (PcK K As σ) Qc 0 0 (Own K)) (hd : decode Mi.2.1 pc = .ok (.invokestatic idx, 3)) {H : Heap} {locs : List Loc} {ls : Array Slot} (hP : va_P K.1 vwCl (wld K σ) H) (hS : va_S (eA E) (eS E).heap H locs) (hl : lv_has ls Mi.2.2.1 (al 0 L)) :
    va_Run (eP E) (eL E) (eE E) (eR E) (eS E) (eM E) (eG E) (eB E) (eT E) (eC E) H locs (eX E) (eY E) 0 0 (F0 (eM E) pc ls (As.reverse ++ rest)) rest (Qc As.toArray) (Own K) :=
  va_runSN (g := F0 (eM E) pc ls (As.reverse ++ rest)) ⟨hE.1, hE.2.1, hE.2.2.1, hE.2.2.2.1, hE.2.2.2.2.1⟩ (hM (eL E)) ⟨va_cnB n hE.2.2.2.2.1 (wsM_good hco) rfl rfl rfl (hE.2.2.2.2.2.1.2.1 _ hlk) (hE.2.2.2.2.1 _ hini) hnm.1 (room_ok hE hdc hnm.2), hE.2.2.2.2.1 _ hst, trivial⟩
    ⟨PcK_blind, fun U hU hW => ⟨rfl, by rw [hU]; exact hP, KU_pass hE hS hU hW⟩⟩ rfl hn hl.1 rfl (lv_room (Nat.le_of_ble_eq_true h8)) hd ⟨hE.2.2.2.2.2.2.1.2.2.1, hE.2.2.2.2.2.2.1.2.2.2⟩
theorem run_V {k ci N : Nat} {fs : List (Nat × Nat)} {T : u_T} (hE : Ok K E Mi d) (hs : sh k = (3, ci, fs)) (hc : vwCl[ci]? = some (Mc.1.cls, T, N)) (hlk : Cond.methodLink Mi.1.cls idx Mc.1 ∈ TW) (hin : Cond.instanceMethod Mc.1 ∈ TW) (hse : Cond.selects Mc.1.cls Mc.1 Mc.1 ∈ TW) (hini : Cond.initialized Mc.1.cls ∈ TW) (hco : Cond.code Mc.1 Mc.2.1 Mc.2.2.1 Mc.2.2.2 ∈ TW) (hnm : NmOk Mc n) (hdc : Nat.blt dc d = true) (hn : As.length = n) (h8 : Nat.ble (rest.map fun v => v.category).sum 8 = true)
    (hM : ∀ l : Launch, Met l Mc.1 (wsM Mc) (rmD dc) (PcK K (.ref (kA K k) :: As) σ) Qc 0 0 (Own K)) (hd : decode Mi.2.1 pc = .ok (.invokevirtual idx, 3)) {H : Heap} {locs : List Loc} {ls : Array Slot} (hP : va_P K.1 vwCl (wld K σ) H) (hS : va_S (eA E) (eS E).heap H locs) (hl : lv_has ls Mi.2.2.1 (al 0 L)) :
    va_Run (eP E) (eL E) (eE E) (eR E) (eS E) (eM E) (eG E) (eB E) (eT E) (eC E) H locs (eX E) (eY E) 0 0 (F0 (eM E) pc ls (As.reverse ++ .ref (kA K k) :: rest)) rest (Qc (Value.ref (kA K k) :: As).toArray) (Own K) := by
  have hk := sh_lt hs (Or.inl (by decide))
  exact va_runV (g := F0 (eM E) pc ls (As.reverse ++ .ref (kA K k) :: rest)) ⟨hE.1, hE.2.1, hE.2.2.1, hE.2.2.2.1, hE.2.2.2.2.1⟩ (hM (eL E)) ⟨callB_of n hE.2.2.2.2.1 (wsM_good hco) rfl rfl rfl (hE.2.2.2.2.1 _ hini) (hE.2.2.2.2.1 _ hlk) hnm.1 (room_ok hE hdc hnm.2), hE.2.2.2.2.1 _ hin, hE.2.2.2.2.1 _ hse⟩
    ⟨PcK_blind, va_recv hE.2.2.2.2.2.1.1 hP hc (fs := fs.map (fv K σ)) (q0 := k) (by rw [wld_get K σ hk, ent, hs]; rfl), fun U hU hW => ⟨rfl, by rw [hU]; exact hP, KU_pass hE hS hU hW⟩⟩ rfl hn hl.1 rfl (lv_room (Nat.le_of_ble_eq_true h8)) hd ⟨hE.2.2.2.2.2.2.1.2.2.1, hE.2.2.2.2.2.2.1.2.2.2⟩
theorem run_VN {host : String} {k ci N : Nat} {fs : List (Nat × Nat)} {T : u_T} (hE : Ok K E Mi d) (hs : sh k = (3, ci, fs)) (hc : vwCl[ci]? = some (Mc.1.cls, T, N)) (hlk : Cond.methodLinkNest Mi.1.cls idx Mc.1 host ∈ nwL) (hin : Cond.instanceMethod Mc.1 ∈ TW) (hse : Cond.selects Mc.1.cls Mc.1 Mc.1 ∈ TW) (hini : Cond.initialized Mc.1.cls ∈ TW) (hco : Cond.code Mc.1 Mc.2.1 Mc.2.2.1 Mc.2.2.2 ∈ TW) (hnm : NmOk Mc n) (hdc : Nat.blt dc d = true) (hn : As.length = n) (h8 : Nat.ble (rest.map fun v => v.category).sum 8 = true)
    (hM : ∀ l : Launch, Met l Mc.1 (wsM Mc) (rmD dc) (PcK K (.ref (kA K k) :: As) σ) Qc 0 0 (Own K)) (hd : decode Mi.2.1 pc = .ok (.invokevirtual idx, 3)) {H : Heap} {locs : List Loc} {ls : Array Slot} (hP : va_P K.1 vwCl (wld K σ) H) (hS : va_S (eA E) (eS E).heap H locs) (hl : lv_has ls Mi.2.2.1 (al 0 L)) :
    va_Run (eP E) (eL E) (eE E) (eR E) (eS E) (eM E) (eG E) (eB E) (eT E) (eC E) H locs (eX E) (eY E) 0 0 (F0 (eM E) pc ls (As.reverse ++ .ref (kA K k) :: rest)) rest (Qc (Value.ref (kA K k) :: As).toArray) (Own K) := by
  have hk := sh_lt hs (Or.inl (by decide))
  exact va_runVN (g := F0 (eM E) pc ls (As.reverse ++ .ref (kA K k) :: rest)) ⟨hE.1, hE.2.1, hE.2.2.1, hE.2.2.2.1, hE.2.2.2.2.1⟩ (hM (eL E)) ⟨va_cnB n hE.2.2.2.2.1 (wsM_good hco) rfl rfl rfl (hE.2.2.2.2.2.1.2.1 _ hlk) (hE.2.2.2.2.1 _ hini) hnm.1 (room_ok hE hdc hnm.2), hE.2.2.2.2.1 _ hin, hE.2.2.2.2.1 _ hse⟩
    ⟨PcK_blind, va_recv hE.2.2.2.2.2.1.1 hP hc (fs := fs.map (fv K σ)) (q0 := k) (by rw [wld_get K σ hk, ent, hs]; rfl), fun U hU hW => ⟨rfl, by rw [hU]; exact hP, KU_pass hE hS hU hW⟩⟩ rfl hn hl.1 rfl (lv_room (Nat.le_of_ble_eq_true h8)) hd ⟨hE.2.2.2.2.2.2.1.2.2.1, hE.2.2.2.2.2.2.1.2.2.2⟩
abbrev Runs (K : Ctx) (E : ME) (Mi : MI) (pc : Nat) (L : List (Option Value)) (st rest : List Value) (σ : Sto) (Qa : State → Outcome → State → Prop) : Prop := ∀ {H : Heap} {locs : List Loc} {ls : Array Slot}, va_P K.1 vwCl (wld K σ) H → va_S (eA E) (eS E).heap H locs → lv_has ls Mi.2.2.1 (al 0 L) → va_Run (eP E) (eL E) (eE E) (eR E) (eS E) (eM E) (eG E) (eB E) (eT E) (eC E) H locs (eX E) (eY E) 0 0 (F0 (eM E) pc ls st) rest Qa (Own K)
theorem V_callI {post : Int → Sto → Prop} {st : List Value} {a : Array Value} (hE : Ok K E Mi d) (hr : Runs K E Mi pc L st rest σ (QcI K post a)) (kk : ∀ (r : Int) (σ' : Sto), post r σ' → V K E Mi (pc + 3) L (.int (i32 r) :: rest) σ') : V K E Mi pc L st σ :=
  fun H locs ls hP hS hl => va_calli (hr hP hS hl) hS (fun q _ h => hE.2.2.2.2.2.2.2 q h) hE.2.2.2.2.2.2.2 (fun r u t H1 locs1 ht hvm hp hB hz hk hS1 => by
    obtain ⟨rfl, hp⟩ := hp
    subst ht
    exact kk u.1 u.2 hp t.heap locs1 ls hB hS1 hl)
theorem V_callL {post : Int → Sto → Prop} {st : List Value} {a : Array Value} (hE : Ok K E Mi d) (hr : Runs K E Mi pc L st rest σ (QcL K post a)) (kk : ∀ (r : Int) (σ' : Sto), post r σ' → V K E Mi (pc + 3) L (.long (i64 r) :: rest) σ') : V K E Mi pc L st σ :=
  fun H locs ls hP hS hl => va_calll (hr hP hS hl) hS (fun q _ h => hE.2.2.2.2.2.2.2 q h) hE.2.2.2.2.2.2.2 (fun r u t H1 locs1 ht hvm hp hB hz hk hS1 => by
    obtain ⟨rfl, hp⟩ := hp
    subst ht
    exact kk u.1 u.2 hp t.heap locs1 ls hB hS1 hl)
theorem V_callV {post : Sto → Prop} {st : List Value} {a : Array Value} (hE : Ok K E Mi d) (hr : Runs K E Mi pc L st rest σ (QcV K post a)) (kk : ∀ σ' : Sto, post σ' → V K E Mi (pc + 3) L rest σ') : V K E Mi pc L st σ :=
  fun H locs ls hP hS hl => va_callv (hr hP hS hl) hS (fun q _ h => hE.2.2.2.2.2.2.2 q h) hE.2.2.2.2.2.2.2 (fun u t H1 locs1 ht hvm hp hB hz hk hS1 => by
    subst ht
    exact kk u hp t.heap locs1 ls hB hS1 hl)
/-! the JDK's: Math, arraycopy -/
theorem V_max (hE : Ok K E Mi d) {a b : Int} (hlk : Cond.methodLink Mi.1.cls idx Lib.Math.max.name ∈ TW) (hd : decode Mi.2.1 pc = .ok (.invokestatic idx, 3)) (h1 : Nat.blt 0 d = true) (h8 : Nat.ble (rest.map fun v => v.category).sum 8 = true) (hr : InI a ∧ InI b) (kk : V K E Mi (pc + 3) L (.int (i32 (max a b)) :: rest) σ) : V K E Mi pc L (.int (i32 b) :: .int (i32 a) :: rest) σ := by
  intro H locs ls hP hS hl
  have h1 : 1 ≤ d := Nat.le_of_ble_eq_true h1
  have h8 := Nat.le_of_ble_eq_true h8
  obtain ⟨r1, r2, r3, r4⟩ := hE.2.2.2.2.2.2.1
  refine va_mmax hE.1 hE.2.1 (hE.2.2.1.trans hl.1.symm) hE.2.2.2.1 (hE.2.2.2.2.1 _ hlk) (hE.2.2.2.2.1 _ tw_max_static) (hE.2.2.2.2.1 _ tw_math_init) (hE.2.2.2.2.1 _ tw_max_code) (by omega) (by omega) r3 r4 hd ?_
  have e : (if i32 a < i32 b then i32 b else i32 a) = i32 (max a b) := by
    by_cases h : a < b
    · rw [if_pos ((i32_lt hr.1 hr.2).mpr h), Int.max_eq_right (by omega)]
    · rw [if_neg (fun q => h ((i32_lt hr.1 hr.2).mp q)), Int.max_eq_left (by omega)]
  rw [e]
  exact kk H locs ls hP hS hl
theorem V_min (hE : Ok K E Mi d) {a b : Int} (hlk : Cond.methodLink Mi.1.cls idx Lib.Math.min.name ∈ TW) (hd : decode Mi.2.1 pc = .ok (.invokestatic idx, 3)) (h1 : Nat.blt 0 d = true) (h8 : Nat.ble (rest.map fun v => v.category).sum 8 = true) (hr : InI a ∧ InI b) (kk : V K E Mi (pc + 3) L (.int (i32 (min a b)) :: rest) σ) : V K E Mi pc L (.int (i32 b) :: .int (i32 a) :: rest) σ := by
  intro H locs ls hP hS hl
  have h1 : 1 ≤ d := Nat.le_of_ble_eq_true h1
  have h8 := Nat.le_of_ble_eq_true h8
  obtain ⟨r1, r2, r3, r4⟩ := hE.2.2.2.2.2.2.1
  refine va_mmin hE.1 hE.2.1 (hE.2.2.1.trans hl.1.symm) hE.2.2.2.1 (hE.2.2.2.2.1 _ hlk) (hE.2.2.2.2.1 _ tw_min_static) (hE.2.2.2.2.1 _ tw_math_init) (hE.2.2.2.2.1 _ tw_min_code) (by omega) (by omega) r3 r4 hd ?_
  have e : (if i32 b < i32 a then i32 b else i32 a) = i32 (min a b) := by
    by_cases h : b < a
    · rw [if_pos ((i32_lt hr.2 hr.1).mpr h), Int.min_eq_right (by omega)]
    · rw [if_neg (fun q => h ((i32_lt hr.2 hr.1).mp q)), Int.min_eq_left (by omega)]
  rw [e]
  exact kk H locs ls hP hS hl
theorem V_abs (hE : Ok K E Mi d) {a : Int} (hlk : Cond.methodLink Mi.1.cls idx Lib.Math.abs.name ∈ TW) (hd : decode Mi.2.1 pc = .ok (.invokestatic idx, 3)) (h1 : Nat.blt 0 d = true) (h8 : Nat.ble (rest.map fun v => v.category).sum 8 = true) (hr : InI a) (kk : V K E Mi (pc + 3) L (.int (i32 ((a.natAbs : Nat) : Int)) :: rest) σ) : V K E Mi pc L (.int (i32 a) :: rest) σ := by
  intro H locs ls hP hS hl
  have h1 : 1 ≤ d := Nat.le_of_ble_eq_true h1
  have h8 := Nat.le_of_ble_eq_true h8
  obtain ⟨r1, r2, r3, r4⟩ := hE.2.2.2.2.2.2.1
  refine va_mabs hE.1 hE.2.1 (hE.2.2.1.trans hl.1.symm) hE.2.2.2.1 (hE.2.2.2.2.1 _ hlk) (hE.2.2.2.2.1 _ tw_abs_static) (hE.2.2.2.2.1 _ tw_math_init) (hE.2.2.2.2.1 _ tw_abs_code) (by omega) (by omega) r3 r4 hd ?_
  have e0 : (0 : Int32) ≤ i32 a ↔ 0 ≤ a := i32_le (a := 0) ⟨by omega, by omega⟩ hr
  have e : (if 0 ≤ i32 a then i32 a else 0 - i32 a) = i32 ((a.natAbs : Nat) : Int) := by
    by_cases h : 0 ≤ a
    · rw [if_pos (e0.mpr h)]; congr 1; omega
    · rw [if_neg (fun q => h (e0.mp q)), show (0 : Int32) = i32 0 from rfl, ← Int32.ofInt_sub]; congr 1; omega
  rw [e]
  exact kk H locs ls hP hS hl
theorem V_absL (hE : Ok K E Mi d) {a : Int} (hlk : Cond.methodLink Mi.1.cls idx Lib.MathLoose.abs_long.x ∈ TW) (hd : decode Mi.2.1 pc = .ok (.invokestatic idx, 3)) (h1 : Nat.blt 0 d = true) (h8 : Nat.ble (rest.map fun v => v.category).sum 8 = true) (hr : InL a) (kk : V K E Mi (pc + 3) L (.long (i64 ((a.natAbs : Nat) : Int)) :: rest) σ) : V K E Mi pc L (.long (i64 a) :: rest) σ := by
  intro H locs ls hP hS hl
  have h1 : 1 ≤ d := Nat.le_of_ble_eq_true h1
  have h8 := Nat.le_of_ble_eq_true h8
  obtain ⟨r1, r2, r3, r4⟩ := hE.2.2.2.2.2.2.1
  refine va_mabs_long hE.1 hE.2.1 (hE.2.2.1.trans hl.1.symm) hE.2.2.2.1 (hE.2.2.2.2.1 _ hlk) (hE.2.2.2.2.1 _ tw_absL_static) (hE.2.2.2.2.1 _ tw_math_init) (hE.2.2.2.2.1 _ tw_absL_code) (by omega) (by omega) r3 r4 hd ?_
  have e0 : (0 : Int64) < i64 a ↔ 0 < a := i64_lt (a := 0) ⟨by omega, by omega⟩ hr
  have e : (if 0 < i64 a then i64 a else -i64 a) = i64 ((a.natAbs : Nat) : Int) := by
    by_cases h : 0 < a
    · rw [if_pos (e0.mpr h)]; congr 1; omega
    · rw [if_neg (fun q => h (e0.mp q)), ← Int64.ofInt_neg]; congr 1; omega
  rw [e]
  exact kk H locs ls hP hS hl
theorem copy_ent {k : Nat} (h : k ≠ 6) : ent K (fun k i => if k = 6 ∧ i < 63 then σ 8 i else σ k i) k = ent K σ k := by
  have e1 : ∀ i, (fun k i => if k = 6 ∧ i < 63 then σ 8 i else σ k i : Sto) k i = σ k i := fun i => by simp [h]
  have key : ∀ S : Nat × Nat × List (Nat × Nat), (∀ f ∈ S.2.2, f.1 = 0 ∨ f.2 ≠ 6) → entOf K (fun k i => if k = 6 ∧ i < 63 then σ 8 i else σ k i) k S = entOf K σ k S := by
    intro S hf
    obtain ⟨a, n, fs⟩ := S
    match a with
    | 0 => simp only [entOf, e1]
    | 1 => simp only [entOf, e1]
    | 2 => simp only [entOf, e1]
    | a + 3 =>
      simp only [entOf]
      congr 2
      refine List.map_congr_left (fun f h => ?_)
      obtain ⟨x, y⟩ := f
      have h2 := hf _ h
      match x, h2 with
      | 0, _ => rfl
      | 1, h2 =>
        have h2 : y ≠ 6 := by simpa using h2
        simp [fv, h2]
      | x + 2, h2 =>
        have h2 : y ≠ 6 := by simpa using h2
        simp [fv, h2]
  refine key (sh k) (fun f hf => ?_)
  rcases Nat.lt_or_ge k 32 with h3 | h3
  · exact (sh_ids k h3 f hf).imp id (fun h2 => by omega)
  · obtain ⟨j, rfl⟩ : ∃ j, k = j + 32 := ⟨k - 32, by omega⟩
    rw [show sh (j + 32) = (0, 0, []) from rfl] at hf
    simp at hf
theorem V_copy (hE : Ok K E Mi d) (hlk : Cond.methodLink Mi.1.cls idx arraycopyName ∈ TW) (hd : decode Mi.2.1 pc = .ok (.invokestatic idx, 3)) (h1 : Nat.blt 0 d = true) (h8 : Nat.ble (rest.map fun v => v.category).sum 8 = true) (kk : V K E Mi (pc + 3) L rest (fun k i => if k = 6 ∧ i < 63 then σ 8 i else σ k i)) : V K E Mi pc L (.int (i32 63) :: .int (i32 0) :: .ref (kA K 6) :: .int (i32 0) :: .ref (kA K 8) :: rest) σ := by
  intro H locs ls hP hS hl
  have h1 : 1 ≤ d := Nat.le_of_ble_eq_true h1
  have h8 := Nat.le_of_ble_eq_true h8
  obtain ⟨r1, r2, r3, r4⟩ := hE.2.2.2.2.2.2.1
  refine va_copyi (f := fun i => i32 (σ 8 i)) (g := fun i => i32 (σ 6 i)) (ty := .int) hE.1 hE.2.1 (hE.2.2.1.trans hl.1.symm) hE.2.2.2.1 (hE.2.2.2.2.1 _ hlk) (hE.2.2.2.2.1 _ tw_copy_native) (hE.2.2.2.2.1 _ tw_copy_static) (hE.2.2.2.2.1 _ tw_sys_init) hE.2.2.2.2.2.1.1 hP (wld_D hE.2.2.2.2.2.1.2.2.2 hE.2.2.2.2.2.2.2 σ) hS 8 6 0 0
    (by rw [wld_get K σ (by decide), ent_int (n := 63) rfl]) (by rw [wld_get K σ (by decide), ent_int (n := 63) rfl]) rfl rfl rfl (by decide) (by decide) (by decide) (by decide) (by decide) (fun _ _ => rfl) (by omega) (by
      have e : nativeFrameWords "java/lang/System" "arraycopy" 5 + 11 ≤ 28 := by decide +kernel
      omega) hd ?_
  rw [wld_set (σ' := fun k i => if k = 6 ∧ i < 63 then σ 8 i else σ k i) (by decide) (fun k _ h => copy_ent h) (by
    rw [ent_int (n := 63) rfl]
    congr 4
    funext j
    rw [show (i32 0).toNatClampNeg = 0 from rfl, show (i32 63).toNatClampNeg = 63 from rfl]
    by_cases hj : j < 63 <;> simp [va_cpy, hj])]
  exact fun H1 locs1 h1 _ h3 => kk H1 locs1 ls h1 h3 hl
end VRUN
end
section
abbrev mX4_init : MI := (yX4_init, cX4_init, 1, none)
abbrev mX0_init : MI := (yX0_init, cX0_init, 1, none)
abbrev mX3_init : MI := (yX3_init, cX3_init, 1, none)
abbrev mX2_init : MI := (yX2_init, cX2_init, 1, none)
abbrev mX1_init : MI := (yX1_init, cX1_init, 1, none)
abbrev mX0_renew : MI := (yX0_renew, cX0_renew, 4, none)
abbrev mX4_hull : MI := (yX4_hull, cX4_hull, 3, (some .int))
abbrev mX4_isNot : MI := (yX4_isNot, cX4_isNot, 3, (some .boolean))
abbrev mX4_offset : MI := (yX4_offset, cX4_offset, 4, (some .int))
abbrev mX0_hasPoint : MI := (yX0_hasPoint, cX0_hasPoint, 3, (some .boolean))
abbrev mX4_cellOf : MI := (yX4_cellOf, cX4_cellOf, 2, (some .int))
abbrev mX0_put : MI := (yX0_put, cX0_put, 4, (some .int))
abbrev mX4_hold : MI := (yX4_hold, cX4_hold, 5, (some .int))
abbrev mX4_setting : MI := (yX4_setting, cX4_setting, 4, (some .int))
abbrev mX4_ofPoint : MI := (yX4_ofPoint, cX4_ofPoint, 5, (some .int))
abbrev mX0_movedBy : MI := (yX0_movedBy, cX0_movedBy, 2, (some .int))
abbrev mX4_bend : MI := (yX4_bend, cX4_bend, 5, (some .int))
abbrev mX4_refusalOfLine : MI := (yX4_refusalOfLine, cX4_refusalOfLine, 3, (some .int))
abbrev mX0_linesOf : MI := (yX0_linesOf, cX0_linesOf, 2, (some .int))
abbrev mX4_takeLine : MI := (yX4_takeLine, cX4_takeLine, 3, none)
abbrev mX0_layOut : MI := (yX0_layOut, cX0_layOut, 5, none)
abbrev mX0_pointsOf : MI := (yX0_pointsOf, cX0_pointsOf, 2, (some .int))
abbrev mX0_cell : MI := (yX0_cell, cX0_cell, 4, (some .int))
abbrev mX3_bendAt : MI := (yX3_bendAt, cX3_bendAt, 2, (some .int))
abbrev mX4_jump : MI := (yX4_jump, cX4_jump, 5, (some .int))
abbrev mX3_jumpAt : MI := (yX3_jumpAt, cX3_jumpAt, 2, (some .int))
abbrev mX4_roughest : MI := (yX4_roughest, cX4_roughest, 7, (some .int))
abbrev mX3_farthestJump : MI := (yX3_farthestJump, cX3_farthestJump, 3, (some .int))
abbrev mX3_firstJumpThatFar : MI := (yX3_firstJumpThatFar, cX3_firstJumpThatFar, 3, (some .int))
abbrev mX4_rough : MI := (yX4_rough, cX4_rough, 4, (some .int))
abbrev mX3_countJumpsBeyond : MI := (yX3_countJumpsBeyond, cX3_countJumpsBeyond, 4, (some .int))
abbrev mX4_least : MI := (yX4_least, cX4_least, 6, (some .int))
abbrev mX4_seekLeast : MI := (yX4_seekLeast, cX4_seekLeast, 8, (some .int))
abbrev mX2_stay : MI := (yX2_stay, cX2_stay, 2, none)
abbrev mX2_place : MI := (yX2_place, cX2_place, 4, none)
abbrev mX2_seek : MI := (yX2_seek, cX2_seek, 5, (some .int))
abbrev mX2_keepFewest : MI := (yX2_keepFewest, cX2_keepFewest, 5, none)
abbrev mX2_slot : MI := (yX2_slot, cX2_slot, 6, (some .int))
abbrev mX2_fewestFrom : MI := (yX2_fewestFrom, cX2_fewestFrom, 10, (some .int))
abbrev mX2_jumpUnmoved : MI := (yX2_jumpUnmoved, cX2_jumpUnmoved, 5, (some .int))
abbrev mX2_lastFit : MI := (yX2_lastFit, cX2_lastFit, 4, (some .int))
abbrev mX2_firstFit : MI := (yX2_firstFit, cX2_firstFit, 4, (some .int))
abbrev mX2_firstLeading : MI := (yX2_firstLeading, cX2_firstLeading, 10, (some .int))
abbrev mX2_moveOf : MI := (yX2_moveOf, cX2_moveOf, 2, (some .int))
abbrev mX4_fair : MI := (yX4_fair, cX4_fair, 5, (some .int))
abbrev mX4_addMoves : MI := (yX4_addMoves, cX4_addMoves, 5, none)
abbrev mX4_rounds : MI := (yX4_rounds, cX4_rounds, 3, (some .int))
abbrev mX4_roundChanges : MI := (yX4_roundChanges, cX4_roundChanges, 3, (some .boolean))
abbrev mX4_back : MI := (yX4_back, cX4_back, 3, (some .int))
abbrev mX4_area : MI := (yX4_area, cX4_area, 4, (some .long))
abbrev mX4_areaInSixths : MI := (yX4_areaInSixths, cX4_areaInSixths, 4, (some .int))
abbrev mX4_sumInSixths : MI := (yX4_sumInSixths, cX4_sumInSixths, 5, (some .int))
abbrev mX4_toldShare : MI := (yX4_toldShare, cX4_toldShare, 7, (some .long))
abbrev mX4_commonDivisor : MI := (yX4_commonDivisor, cX4_commonDivisor, 11, (some .long))
abbrev mX4_centre : MI := (yX4_centre, cX4_centre, 6, (some .long))
abbrev mX4_volume : MI := (yX4_volume, cX4_volume, 6, (some .long))
abbrev mX4_height : MI := (yX4_height, cX4_height, 4, (some .long))
abbrev mX1_measure : MI := (yX1_measure, cX1_measure, 6, none)
abbrev mX1_isThere : MI := (yX1_isThere, cX1_isThere, 2, (some .boolean))
abbrev mX4_breaks : MI := (yX4_breaks, cX4_breaks, 2, (some .int))
abbrev mX1_countBreaks : MI := (yX1_countBreaks, cX1_countBreaks, 6, (some .int))
abbrev mX1_isBreak : MI := (yX1_isBreak, cX1_isBreak, 11, (some .boolean))
abbrev mX4_worst : MI := (yX4_worst, cX4_worst, 6, (some .int))
abbrev mX0_broadest : MI := (yX0_broadest, cX0_broadest, 3, (some .int))
abbrev mX4_many : MI := (yX4_many, cX4_many, 2, (some .int))
abbrev mX0_countHeld : MI := (yX0_countHeld, cX0_countHeld, 3, (some .int))
abbrev mX4_countUnfair : MI := (yX4_countUnfair, cX4_countUnfair, 4, (some .int))
abbrev mX0_farFromPuts : MI := (yX0_farFromPuts, cX0_farFromPuts, 3, (some .int))
abbrev mX5_init : MI := (yX5_init, cX5_init, 1, none)
abbrev mX5_hull : MI := (yX5_hull, cX5_hull, 4, (some .int))
abbrev mX5_within : MI := (yX5_within, cX5_within, 6, (some .boolean))
abbrev mX5_offset : MI := (yX5_offset, cX5_offset, 5, (some .int))
abbrev mX5_isPoint : MI := (yX5_isPoint, cX5_isPoint, 3, (some .boolean))
abbrev mX5_isOffset : MI := (yX5_isOffset, cX5_isOffset, 1, (some .boolean))
abbrev mX5_hold : MI := (yX5_hold, cX5_hold, 5, (some .int))
abbrev mX5_setting : MI := (yX5_setting, cX5_setting, 4, (some .int))
abbrev mX5_ofPoint : MI := (yX5_ofPoint, cX5_ofPoint, 5, (some .int))
abbrev mX5_bend : MI := (yX5_bend, cX5_bend, 5, (some .int))
abbrev mX5_barred : MI := (yX5_barred, cX5_barred, 5, (some .int))
abbrev mX5_isView : MI := (yX5_isView, cX5_isView, 1, (some .boolean))
abbrev mX5_isLine : MI := (yX5_isLine, cX5_isLine, 3, (some .boolean))
abbrev mX5_linesOf : MI := (yX5_linesOf, cX5_linesOf, 2, (some .int))
abbrev mX5_lays : MI := (yX5_lays, cX5_lays, 4, none)
abbrev mX5_bendAt : MI := (yX5_bendAt, cX5_bendAt, 2, (some .int))
abbrev mX5_jump : MI := (yX5_jump, cX5_jump, 5, (some .int))
abbrev mX5_jumpAt : MI := (yX5_jumpAt, cX5_jumpAt, 2, (some .int))
abbrev mX5_roughest : MI := (yX5_roughest, cX5_roughest, 8, (some .int))
abbrev mX5_far : MI := (yX5_far, cX5_far, 1, (some .int))
abbrev mX5_rough : MI := (yX5_rough, cX5_rough, 3, (some .int))
abbrev mX5_roughNow : MI := (yX5_roughNow, cX5_roughNow, 3, (some .int))
abbrev mX5_least : MI := (yX5_least, cX5_least, 4, (some .int))
abbrev mX5_findLeast : MI := (yX5_findLeast, cX5_findLeast, 2, (some .boolean))
abbrev mX5_findNeeds : MI := (yX5_findNeeds, cX5_findNeeds, 7, none)
abbrev mX5_may : MI := (yX5_may, cX5_may, 3, (some .boolean))
abbrev mX5_needFrom : MI := (yX5_needFrom, cX5_needFrom, 8, (some .int))
abbrev mX5_isFair : MI := (yX5_isFair, cX5_isFair, 7, (some .boolean))
abbrev mX5_triple : MI := (yX5_triple, cX5_triple, 3, (some .int))
abbrev mX5_begins : MI := (yX5_begins, cX5_begins, 5, (some .boolean))
abbrev mX5_nextMove : MI := (yX5_nextMove, cX5_nextMove, 4, (some .int))
abbrev mX5_fair : MI := (yX5_fair, cX5_fair, 3, (some .int))
abbrev mX5_fairs : MI := (yX5_fairs, cX5_fairs, 4, (some .boolean))
abbrev mX5_rounds : MI := (yX5_rounds, cX5_rounds, 3, (some .int))
abbrev mX5_round : MI := (yX5_round, cX5_round, 3, (some .boolean))
abbrev mX5_back : MI := (yX5_back, cX5_back, 3, (some .int))
abbrev mX5_area : MI := (yX5_area, cX5_area, 4, (some .long))
abbrev mX5_isWhich : MI := (yX5_isWhich, cX5_isWhich, 1, (some .boolean))
abbrev mX5_sumOf : MI := (yX5_sumOf, cX5_sumOf, 4, (some .long))
abbrev mX5_sixths : MI := (yX5_sixths, cX5_sixths, 6, (some .long))
abbrev mX5_told : MI := (yX5_told, cX5_told, 11, (some .long))
abbrev mX5_centre : MI := (yX5_centre, cX5_centre, 7, (some .long))
abbrev mX5_volume : MI := (yX5_volume, cX5_volume, 5, (some .long))
abbrev mX5_height : MI := (yX5_height, cX5_height, 4, (some .long))
abbrev mX5_isBreadth : MI := (yX5_isBreadth, cX5_isBreadth, 1, (some .boolean))
abbrev mX5_findHeight : MI := (yX5_findHeight, cX5_findHeight, 6, (some .boolean))
abbrev mX5_breaks : MI := (yX5_breaks, cX5_breaks, 2, (some .int))
abbrev mX5_breaksAt : MI := (yX5_breaksAt, cX5_breaksAt, 4, (some .int))
abbrev mX5_isBreak : MI := (yX5_isBreak, cX5_isBreak, 9, (some .boolean))
abbrev mX5_worst : MI := (yX5_worst, cX5_worst, 5, (some .int))
abbrev mX5_many : MI := (yX5_many, cX5_many, 2, (some .int))
abbrev mX5_manyHeld : MI := (yX5_manyHeld, cX5_manyHeld, 3, (some .int))
abbrev mX5_manyRough : MI := (yX5_manyRough, cX5_manyRough, 4, (some .int))
abbrev mX5_farOff : MI := (yX5_farOff, cX5_farOff, 3, (some .int))
abbrev mL_law : MI := (⟨RL, "law", "([I)Z"⟩, cL_law, 4, (some .boolean))
theorem gf_X0_9 {K : Ctx} {E : ME} {Mi : MI} {d pc : Nat} {L : List (Option Value)} {st : List Value} {σ : Sto} (hE : Ok K E Mi d) (ho : Mi.1.cls = RX0) (hd : decode Mi.2.1 pc = .ok (.getfield 9, 3)) (kk : V K E Mi (pc + 3) L (.ref (kA K 8) :: st) σ) : V K E Mi pc L (.ref (kA K 1) :: st) σ :=
  V_get (k := 1) (ci := 0) (j := 0) (f := (0, 8)) hE rfl rfl rfl rfl in_X0 (by rw [ho]; exact tw_fl_X0_9) rfl hd kk
theorem gf_X0_15 {K : Ctx} {E : ME} {Mi : MI} {d pc : Nat} {L : List (Option Value)} {st : List Value} {σ : Sto} (hE : Ok K E Mi d) (ho : Mi.1.cls = RX0) (hd : decode Mi.2.1 pc = .ok (.getfield 15, 3)) (kk : V K E Mi (pc + 3) L (.ref (kA K 9) :: st) σ) : V K E Mi pc L (.ref (kA K 1) :: st) σ :=
  V_get (k := 1) (ci := 0) (j := 1) (f := (0, 9)) hE rfl rfl rfl rfl in_X0 (by rw [ho]; exact tw_fl_X0_15) rfl hd kk
theorem gf_X0_18 {K : Ctx} {E : ME} {Mi : MI} {d pc : Nat} {L : List (Option Value)} {st : List Value} {σ : Sto} (hE : Ok K E Mi d) (ho : Mi.1.cls = RX0) (hd : decode Mi.2.1 pc = .ok (.getfield 18, 3)) (kk : V K E Mi (pc + 3) L (.ref (kA K 10) :: st) σ) : V K E Mi pc L (.ref (kA K 1) :: st) σ :=
  V_get (k := 1) (ci := 0) (j := 2) (f := (0, 10)) hE rfl rfl rfl rfl in_X0 (by rw [ho]; exact tw_fl_X0_18) rfl hd kk
theorem gf_X0_22 {K : Ctx} {E : ME} {Mi : MI} {d pc : Nat} {L : List (Option Value)} {st : List Value} {σ : Sto} (hE : Ok K E Mi d) (ho : Mi.1.cls = RX0) (hd : decode Mi.2.1 pc = .ok (.getfield 22, 3)) (kk : V K E Mi (pc + 3) L (.int (i32 (σ 100 0)) :: st) σ) : V K E Mi pc L (.ref (kA K 1) :: st) σ :=
  V_get (k := 1) (ci := 0) (j := 3) (f := (1, 100)) hE rfl rfl rfl rfl in_X0 (by rw [ho]; exact tw_fl_X0_22) rfl hd kk
theorem gf_X0_26 {K : Ctx} {E : ME} {Mi : MI} {d pc : Nat} {L : List (Option Value)} {st : List Value} {σ : Sto} (hE : Ok K E Mi d) (ho : Mi.1.cls = RX0) (hd : decode Mi.2.1 pc = .ok (.getfield 26, 3)) (kk : V K E Mi (pc + 3) L (.int (i32 (σ 101 0)) :: st) σ) : V K E Mi pc L (.ref (kA K 1) :: st) σ :=
  V_get (k := 1) (ci := 0) (j := 4) (f := (1, 101)) hE rfl rfl rfl rfl in_X0 (by rw [ho]; exact tw_fl_X0_26) rfl hd kk
theorem gf_X0_37 {K : Ctx} {E : ME} {Mi : MI} {d pc : Nat} {L : List (Option Value)} {st : List Value} {σ : Sto} (hE : Ok K E Mi d) (ho : Mi.1.cls = RX0) (hd : decode Mi.2.1 pc = .ok (.getfield 37, 3)) (kk : V K E Mi (pc + 3) L (.int (i32 (σ 102 0)) :: st) σ) : V K E Mi pc L (.ref (kA K 2) :: st) σ :=
  V_getN (k := 2) (ci := 3) (j := 1) (f := (1, 102)) hE rfl rfl rfl rfl in_X3 (by rw [ho]; exact nw_fl_X0_37) rfl hd kk
theorem gf_X0_42 {K : Ctx} {E : ME} {Mi : MI} {d pc : Nat} {L : List (Option Value)} {st : List Value} {σ : Sto} (hE : Ok K E Mi d) (ho : Mi.1.cls = RX0) (hd : decode Mi.2.1 pc = .ok (.getfield 42, 3)) (kk : V K E Mi (pc + 3) L (.ref (kA K 11) :: st) σ) : V K E Mi pc L (.ref (kA K 2) :: st) σ :=
  V_getN (k := 2) (ci := 3) (j := 0) (f := (0, 11)) hE rfl rfl rfl rfl in_X3 (by rw [ho]; exact nw_fl_X0_42) rfl hd kk
theorem gf_X1_9 {K : Ctx} {E : ME} {Mi : MI} {d pc : Nat} {L : List (Option Value)} {st : List Value} {σ : Sto} (hE : Ok K E Mi d) (ho : Mi.1.cls = RX1) (hd : decode Mi.2.1 pc = .ok (.getfield 9, 3)) (kk : V K E Mi (pc + 3) L (.ref (kA K 17) :: st) σ) : V K E Mi pc L (.ref (kA K 4) :: st) σ :=
  V_get (k := 4) (ci := 1) (j := 0) (f := (0, 17)) hE rfl rfl rfl rfl in_X1 (by rw [ho]; exact tw_fl_X1_9) rfl hd kk
theorem gf_X1_15 {K : Ctx} {E : ME} {Mi : MI} {d pc : Nat} {L : List (Option Value)} {st : List Value} {σ : Sto} (hE : Ok K E Mi d) (ho : Mi.1.cls = RX1) (hd : decode Mi.2.1 pc = .ok (.getfield 15, 3)) (kk : V K E Mi (pc + 3) L (.ref (kA K 18) :: st) σ) : V K E Mi pc L (.ref (kA K 4) :: st) σ :=
  V_get (k := 4) (ci := 1) (j := 1) (f := (0, 18)) hE rfl rfl rfl rfl in_X1 (by rw [ho]; exact tw_fl_X1_15) rfl hd kk
theorem gf_X1_18 {K : Ctx} {E : ME} {Mi : MI} {d pc : Nat} {L : List (Option Value)} {st : List Value} {σ : Sto} (hE : Ok K E Mi d) (ho : Mi.1.cls = RX1) (hd : decode Mi.2.1 pc = .ok (.getfield 18, 3)) (kk : V K E Mi (pc + 3) L (.int (i32 (σ 101 0)) :: st) σ) : V K E Mi pc L (.ref (kA K 1) :: st) σ :=
  V_getN (k := 1) (ci := 0) (j := 4) (f := (1, 101)) hE rfl rfl rfl rfl in_X0 (by rw [ho]; exact nw_fl_X1_18) rfl hd kk
theorem gf_X1_24 {K : Ctx} {E : ME} {Mi : MI} {d pc : Nat} {L : List (Option Value)} {st : List Value} {σ : Sto} (hE : Ok K E Mi d) (ho : Mi.1.cls = RX1) (hd : decode Mi.2.1 pc = .ok (.getfield 24, 3)) (kk : V K E Mi (pc + 3) L (.ref (kA K 8) :: st) σ) : V K E Mi pc L (.ref (kA K 1) :: st) σ :=
  V_getN (k := 1) (ci := 0) (j := 0) (f := (0, 8)) hE rfl rfl rfl rfl in_X0 (by rw [ho]; exact nw_fl_X1_24) rfl hd kk
theorem gf_X1_32 {K : Ctx} {E : ME} {Mi : MI} {d pc : Nat} {L : List (Option Value)} {st : List Value} {σ : Sto} (hE : Ok K E Mi d) (ho : Mi.1.cls = RX1) (hd : decode Mi.2.1 pc = .ok (.getfield 32, 3)) (kk : V K E Mi (pc + 3) L (.int (i32 (σ 100 0)) :: st) σ) : V K E Mi pc L (.ref (kA K 1) :: st) σ :=
  V_getN (k := 1) (ci := 0) (j := 3) (f := (1, 100)) hE rfl rfl rfl rfl in_X0 (by rw [ho]; exact nw_fl_X1_32) rfl hd kk
theorem gf_X2_11 {K : Ctx} {E : ME} {Mi : MI} {d pc : Nat} {L : List (Option Value)} {st : List Value} {σ : Sto} (hE : Ok K E Mi d) (ho : Mi.1.cls = RX2) (hd : decode Mi.2.1 pc = .ok (.getfield 11, 3)) (kk : V K E Mi (pc + 3) L (.ref (kA K 12) :: st) σ) : V K E Mi pc L (.ref (kA K 3) :: st) σ :=
  V_get (k := 3) (ci := 2) (j := 0) (f := (0, 12)) hE rfl rfl rfl rfl in_X2 (by rw [ho]; exact tw_fl_X2_11) rfl hd kk
theorem gf_X2_15 {K : Ctx} {E : ME} {Mi : MI} {d pc : Nat} {L : List (Option Value)} {st : List Value} {σ : Sto} (hE : Ok K E Mi d) (ho : Mi.1.cls = RX2) (hd : decode Mi.2.1 pc = .ok (.getfield 15, 3)) (kk : V K E Mi (pc + 3) L (.ref (kA K 13) :: st) σ) : V K E Mi pc L (.ref (kA K 3) :: st) σ :=
  V_get (k := 3) (ci := 2) (j := 1) (f := (0, 13)) hE rfl rfl rfl rfl in_X2 (by rw [ho]; exact tw_fl_X2_15) rfl hd kk
theorem gf_X2_18 {K : Ctx} {E : ME} {Mi : MI} {d pc : Nat} {L : List (Option Value)} {st : List Value} {σ : Sto} (hE : Ok K E Mi d) (ho : Mi.1.cls = RX2) (hd : decode Mi.2.1 pc = .ok (.getfield 18, 3)) (kk : V K E Mi (pc + 3) L (.ref (kA K 14) :: st) σ) : V K E Mi pc L (.ref (kA K 3) :: st) σ :=
  V_get (k := 3) (ci := 2) (j := 2) (f := (0, 14)) hE rfl rfl rfl rfl in_X2 (by rw [ho]; exact tw_fl_X2_18) rfl hd kk
theorem gf_X2_21 {K : Ctx} {E : ME} {Mi : MI} {d pc : Nat} {L : List (Option Value)} {st : List Value} {σ : Sto} (hE : Ok K E Mi d) (ho : Mi.1.cls = RX2) (hd : decode Mi.2.1 pc = .ok (.getfield 21, 3)) (kk : V K E Mi (pc + 3) L (.ref (kA K 15) :: st) σ) : V K E Mi pc L (.ref (kA K 3) :: st) σ :=
  V_get (k := 3) (ci := 2) (j := 3) (f := (0, 15)) hE rfl rfl rfl rfl in_X2 (by rw [ho]; exact tw_fl_X2_21) rfl hd kk
theorem gf_X2_24 {K : Ctx} {E : ME} {Mi : MI} {d pc : Nat} {L : List (Option Value)} {st : List Value} {σ : Sto} (hE : Ok K E Mi d) (ho : Mi.1.cls = RX2) (hd : decode Mi.2.1 pc = .ok (.getfield 24, 3)) (kk : V K E Mi (pc + 3) L (.ref (kA K 16) :: st) σ) : V K E Mi pc L (.ref (kA K 3) :: st) σ :=
  V_get (k := 3) (ci := 2) (j := 4) (f := (0, 16)) hE rfl rfl rfl rfl in_X2 (by rw [ho]; exact tw_fl_X2_24) rfl hd kk
theorem gf_X2_36 {K : Ctx} {E : ME} {Mi : MI} {d pc : Nat} {L : List (Option Value)} {st : List Value} {σ : Sto} (hE : Ok K E Mi d) (ho : Mi.1.cls = RX2) (hd : decode Mi.2.1 pc = .ok (.getfield 36, 3)) (kk : V K E Mi (pc + 3) L (.int (i32 (σ 103 0)) :: st) σ) : V K E Mi pc L (.ref (kA K 3) :: st) σ :=
  V_get (k := 3) (ci := 2) (j := 5) (f := (1, 103)) hE rfl rfl rfl rfl in_X2 (by rw [ho]; exact tw_fl_X2_36) rfl hd kk
theorem gf_X2_40 {K : Ctx} {E : ME} {Mi : MI} {d pc : Nat} {L : List (Option Value)} {st : List Value} {σ : Sto} (hE : Ok K E Mi d) (ho : Mi.1.cls = RX2) (hd : decode Mi.2.1 pc = .ok (.getfield 40, 3)) (kk : V K E Mi (pc + 3) L (.int (i32 (σ 104 0)) :: st) σ) : V K E Mi pc L (.ref (kA K 3) :: st) σ :=
  V_get (k := 3) (ci := 2) (j := 6) (f := (1, 104)) hE rfl rfl rfl rfl in_X2 (by rw [ho]; exact tw_fl_X2_40) rfl hd kk
theorem gf_X3_9 {K : Ctx} {E : ME} {Mi : MI} {d pc : Nat} {L : List (Option Value)} {st : List Value} {σ : Sto} (hE : Ok K E Mi d) (ho : Mi.1.cls = RX3) (hd : decode Mi.2.1 pc = .ok (.getfield 9, 3)) (kk : V K E Mi (pc + 3) L (.ref (kA K 11) :: st) σ) : V K E Mi pc L (.ref (kA K 2) :: st) σ :=
  V_get (k := 2) (ci := 3) (j := 0) (f := (0, 11)) hE rfl rfl rfl rfl in_X3 (by rw [ho]; exact tw_fl_X3_9) rfl hd kk
theorem gf_X3_19 {K : Ctx} {E : ME} {Mi : MI} {d pc : Nat} {L : List (Option Value)} {st : List Value} {σ : Sto} (hE : Ok K E Mi d) (ho : Mi.1.cls = RX3) (hd : decode Mi.2.1 pc = .ok (.getfield 19, 3)) (kk : V K E Mi (pc + 3) L (.int (i32 (σ 102 0)) :: st) σ) : V K E Mi pc L (.ref (kA K 2) :: st) σ :=
  V_get (k := 2) (ci := 3) (j := 1) (f := (1, 102)) hE rfl rfl rfl rfl in_X3 (by rw [ho]; exact tw_fl_X3_19) rfl hd kk
theorem gf_X4_14 {K : Ctx} {E : ME} {Mi : MI} {d pc : Nat} {L : List (Option Value)} {st : List Value} {σ : Sto} (hE : Ok K E Mi d) (ho : Mi.1.cls = RX4) (hd : decode Mi.2.1 pc = .ok (.getfield 14, 3)) (kk : V K E Mi (pc + 3) L (.ref (kA K 1) :: st) σ) : V K E Mi pc L (.ref (kA K 0) :: st) σ :=
  V_get (k := 0) (ci := 4) (j := 0) (f := (0, 1)) hE rfl rfl rfl rfl in_X4 (by rw [ho]; exact tw_fl_X4_14) rfl hd kk
theorem gf_X4_21 {K : Ctx} {E : ME} {Mi : MI} {d pc : Nat} {L : List (Option Value)} {st : List Value} {σ : Sto} (hE : Ok K E Mi d) (ho : Mi.1.cls = RX4) (hd : decode Mi.2.1 pc = .ok (.getfield 21, 3)) (kk : V K E Mi (pc + 3) L (.ref (kA K 2) :: st) σ) : V K E Mi pc L (.ref (kA K 0) :: st) σ :=
  V_get (k := 0) (ci := 4) (j := 1) (f := (0, 2)) hE rfl rfl rfl rfl in_X4 (by rw [ho]; exact tw_fl_X4_21) rfl hd kk
theorem gf_X4_28 {K : Ctx} {E : ME} {Mi : MI} {d pc : Nat} {L : List (Option Value)} {st : List Value} {σ : Sto} (hE : Ok K E Mi d) (ho : Mi.1.cls = RX4) (hd : decode Mi.2.1 pc = .ok (.getfield 28, 3)) (kk : V K E Mi (pc + 3) L (.ref (kA K 3) :: st) σ) : V K E Mi pc L (.ref (kA K 0) :: st) σ :=
  V_get (k := 0) (ci := 4) (j := 2) (f := (0, 3)) hE rfl rfl rfl rfl in_X4 (by rw [ho]; exact tw_fl_X4_28) rfl hd kk
theorem gf_X4_35 {K : Ctx} {E : ME} {Mi : MI} {d pc : Nat} {L : List (Option Value)} {st : List Value} {σ : Sto} (hE : Ok K E Mi d) (ho : Mi.1.cls = RX4) (hd : decode Mi.2.1 pc = .ok (.getfield 35, 3)) (kk : V K E Mi (pc + 3) L (.ref (kA K 4) :: st) σ) : V K E Mi pc L (.ref (kA K 0) :: st) σ :=
  V_get (k := 0) (ci := 4) (j := 3) (f := (0, 4)) hE rfl rfl rfl rfl in_X4 (by rw [ho]; exact tw_fl_X4_35) rfl hd kk
theorem gf_X4_48 {K : Ctx} {E : ME} {Mi : MI} {d pc : Nat} {L : List (Option Value)} {st : List Value} {σ : Sto} (hE : Ok K E Mi d) (ho : Mi.1.cls = RX4) (hd : decode Mi.2.1 pc = .ok (.getfield 48, 3)) (kk : V K E Mi (pc + 3) L (.ref (kA K 5) :: st) σ) : V K E Mi pc L (.ref (kA K 0) :: st) σ :=
  V_get (k := 0) (ci := 4) (j := 4) (f := (0, 5)) hE rfl rfl rfl rfl in_X4 (by rw [ho]; exact tw_fl_X4_48) rfl hd kk
theorem gf_X4_51 {K : Ctx} {E : ME} {Mi : MI} {d pc : Nat} {L : List (Option Value)} {st : List Value} {σ : Sto} (hE : Ok K E Mi d) (ho : Mi.1.cls = RX4) (hd : decode Mi.2.1 pc = .ok (.getfield 51, 3)) (kk : V K E Mi (pc + 3) L (.ref (kA K 6) :: st) σ) : V K E Mi pc L (.ref (kA K 0) :: st) σ :=
  V_get (k := 0) (ci := 4) (j := 5) (f := (0, 6)) hE rfl rfl rfl rfl in_X4 (by rw [ho]; exact tw_fl_X4_51) rfl hd kk
theorem gf_X4_54 {K : Ctx} {E : ME} {Mi : MI} {d pc : Nat} {L : List (Option Value)} {st : List Value} {σ : Sto} (hE : Ok K E Mi d) (ho : Mi.1.cls = RX4) (hd : decode Mi.2.1 pc = .ok (.getfield 54, 3)) (kk : V K E Mi (pc + 3) L (.ref (kA K 7) :: st) σ) : V K E Mi pc L (.ref (kA K 0) :: st) σ :=
  V_get (k := 0) (ci := 4) (j := 6) (f := (0, 7)) hE rfl rfl rfl rfl in_X4 (by rw [ho]; exact tw_fl_X4_54) rfl hd kk
theorem gf_X4_76 {K : Ctx} {E : ME} {Mi : MI} {d pc : Nat} {L : List (Option Value)} {st : List Value} {σ : Sto} (hE : Ok K E Mi d) (ho : Mi.1.cls = RX4) (hd : decode Mi.2.1 pc = .ok (.getfield 76, 3)) (kk : V K E Mi (pc + 3) L (.ref (kA K 10) :: st) σ) : V K E Mi pc L (.ref (kA K 1) :: st) σ :=
  V_getN (k := 1) (ci := 0) (j := 2) (f := (0, 10)) hE rfl rfl rfl rfl in_X0 (by rw [ho]; exact nw_fl_X4_76) rfl hd kk
theorem gf_X4_86 {K : Ctx} {E : ME} {Mi : MI} {d pc : Nat} {L : List (Option Value)} {st : List Value} {σ : Sto} (hE : Ok K E Mi d) (ho : Mi.1.cls = RX4) (hd : decode Mi.2.1 pc = .ok (.getfield 86, 3)) (kk : V K E Mi (pc + 3) L (.ref (kA K 8) :: st) σ) : V K E Mi pc L (.ref (kA K 1) :: st) σ :=
  V_getN (k := 1) (ci := 0) (j := 0) (f := (0, 8)) hE rfl rfl rfl rfl in_X0 (by rw [ho]; exact nw_fl_X4_86) rfl hd kk
theorem gf_X4_99 {K : Ctx} {E : ME} {Mi : MI} {d pc : Nat} {L : List (Option Value)} {st : List Value} {σ : Sto} (hE : Ok K E Mi d) (ho : Mi.1.cls = RX4) (hd : decode Mi.2.1 pc = .ok (.getfield 99, 3)) (kk : V K E Mi (pc + 3) L (.int (i32 (σ 102 0)) :: st) σ) : V K E Mi pc L (.ref (kA K 2) :: st) σ :=
  V_getN (k := 2) (ci := 3) (j := 1) (f := (1, 102)) hE rfl rfl rfl rfl in_X3 (by rw [ho]; exact nw_fl_X4_99) rfl hd kk
theorem gf_X4_138 {K : Ctx} {E : ME} {Mi : MI} {d pc : Nat} {L : List (Option Value)} {st : List Value} {σ : Sto} (hE : Ok K E Mi d) (ho : Mi.1.cls = RX4) (hd : decode Mi.2.1 pc = .ok (.getfield 138, 3)) (kk : V K E Mi (pc + 3) L (.ref (kA K 9) :: st) σ) : V K E Mi pc L (.ref (kA K 1) :: st) σ :=
  V_getN (k := 1) (ci := 0) (j := 1) (f := (0, 9)) hE rfl rfl rfl rfl in_X0 (by rw [ho]; exact nw_fl_X4_138) rfl hd kk
theorem gf_X4_152 {K : Ctx} {E : ME} {Mi : MI} {d pc : Nat} {L : List (Option Value)} {st : List Value} {σ : Sto} (hE : Ok K E Mi d) (ho : Mi.1.cls = RX4) (hd : decode Mi.2.1 pc = .ok (.getfield 152, 3)) (kk : V K E Mi (pc + 3) L (.ref (kA K 11) :: st) σ) : V K E Mi pc L (.ref (kA K 2) :: st) σ :=
  V_getN (k := 2) (ci := 3) (j := 0) (f := (0, 11)) hE rfl rfl rfl rfl in_X3 (by rw [ho]; exact nw_fl_X4_152) rfl hd kk
theorem gf_X4_159 {K : Ctx} {E : ME} {Mi : MI} {d pc : Nat} {L : List (Option Value)} {st : List Value} {σ : Sto} (hE : Ok K E Mi d) (ho : Mi.1.cls = RX4) (hd : decode Mi.2.1 pc = .ok (.getfield 159, 3)) (kk : V K E Mi (pc + 3) L (.int (i32 (σ 100 0)) :: st) σ) : V K E Mi pc L (.ref (kA K 1) :: st) σ :=
  V_getN (k := 1) (ci := 0) (j := 3) (f := (1, 100)) hE rfl rfl rfl rfl in_X0 (by rw [ho]; exact nw_fl_X4_159) rfl hd kk
theorem gf_X4_170 {K : Ctx} {E : ME} {Mi : MI} {d pc : Nat} {L : List (Option Value)} {st : List Value} {σ : Sto} (hE : Ok K E Mi d) (ho : Mi.1.cls = RX4) (hd : decode Mi.2.1 pc = .ok (.getfield 170, 3)) (kk : V K E Mi (pc + 3) L (.ref (kA K 17) :: st) σ) : V K E Mi pc L (.ref (kA K 4) :: st) σ :=
  V_getN (k := 4) (ci := 1) (j := 0) (f := (0, 17)) hE rfl rfl rfl rfl in_X1 (by rw [ho]; exact nw_fl_X4_170) rfl hd kk
theorem gf_X4_174 {K : Ctx} {E : ME} {Mi : MI} {d pc : Nat} {L : List (Option Value)} {st : List Value} {σ : Sto} (hE : Ok K E Mi d) (ho : Mi.1.cls = RX4) (hd : decode Mi.2.1 pc = .ok (.getfield 174, 3)) (kk : V K E Mi (pc + 3) L (.ref (kA K 18) :: st) σ) : V K E Mi pc L (.ref (kA K 4) :: st) σ :=
  V_getN (k := 4) (ci := 1) (j := 1) (f := (0, 18)) hE rfl rfl rfl rfl in_X1 (by rw [ho]; exact nw_fl_X4_174) rfl hd kk
theorem gf_X4_184 {K : Ctx} {E : ME} {Mi : MI} {d pc : Nat} {L : List (Option Value)} {st : List Value} {σ : Sto} (hE : Ok K E Mi d) (ho : Mi.1.cls = RX4) (hd : decode Mi.2.1 pc = .ok (.getfield 184, 3)) (kk : V K E Mi (pc + 3) L (.int (i32 (σ 101 0)) :: st) σ) : V K E Mi pc L (.ref (kA K 1) :: st) σ :=
  V_getN (k := 1) (ci := 0) (j := 4) (f := (1, 101)) hE rfl rfl rfl rfl in_X0 (by rw [ho]; exact nw_fl_X4_184) rfl hd kk
theorem gf_X5_7 {K : Ctx} {E : ME} {Mi : MI} {d pc : Nat} {L : List (Option Value)} {st : List Value} {σ : Sto} (hE : Ok K E Mi d) (ho : Mi.1.cls = RX5) (hd : decode Mi.2.1 pc = .ok (.getfield 7, 3)) (kk : V K E Mi (pc + 3) L (.int (i32 (σ 112 0)) :: st) σ) : V K E Mi pc L (.ref (kA K 19) :: st) σ :=
  V_get (k := 19) (ci := 5) (j := 2) (f := (1, 112)) hE rfl rfl rfl rfl in_X5 (by rw [ho]; exact tw_fl_X5_7) rfl hd kk
theorem gf_X5_13 {K : Ctx} {E : ME} {Mi : MI} {d pc : Nat} {L : List (Option Value)} {st : List Value} {σ : Sto} (hE : Ok K E Mi d) (ho : Mi.1.cls = RX5) (hd : decode Mi.2.1 pc = .ok (.getfield 13, 3)) (kk : V K E Mi (pc + 3) L (.int (i32 (σ 113 0)) :: st) σ) : V K E Mi pc L (.ref (kA K 19) :: st) σ :=
  V_get (k := 19) (ci := 5) (j := 3) (f := (1, 113)) hE rfl rfl rfl rfl in_X5 (by rw [ho]; exact tw_fl_X5_13) rfl hd kk
theorem gf_X5_16 {K : Ctx} {E : ME} {Mi : MI} {d pc : Nat} {L : List (Option Value)} {st : List Value} {σ : Sto} (hE : Ok K E Mi d) (ho : Mi.1.cls = RX5) (hd : decode Mi.2.1 pc = .ok (.getfield 16, 3)) (kk : V K E Mi (pc + 3) L (.int (i32 (σ 114 0)) :: st) σ) : V K E Mi pc L (.ref (kA K 19) :: st) σ :=
  V_get (k := 19) (ci := 5) (j := 4) (f := (1, 114)) hE rfl rfl rfl rfl in_X5 (by rw [ho]; exact tw_fl_X5_16) rfl hd kk
theorem gf_X5_19 {K : Ctx} {E : ME} {Mi : MI} {d pc : Nat} {L : List (Option Value)} {st : List Value} {σ : Sto} (hE : Ok K E Mi d) (ho : Mi.1.cls = RX5) (hd : decode Mi.2.1 pc = .ok (.getfield 19, 3)) (kk : V K E Mi (pc + 3) L (.int (i32 (σ 115 0)) :: st) σ) : V K E Mi pc L (.ref (kA K 19) :: st) σ :=
  V_get (k := 19) (ci := 5) (j := 5) (f := (1, 115)) hE rfl rfl rfl rfl in_X5 (by rw [ho]; exact tw_fl_X5_19) rfl hd kk
theorem gf_X5_22 {K : Ctx} {E : ME} {Mi : MI} {d pc : Nat} {L : List (Option Value)} {st : List Value} {σ : Sto} (hE : Ok K E Mi d) (ho : Mi.1.cls = RX5) (hd : decode Mi.2.1 pc = .ok (.getfield 22, 3)) (kk : V K E Mi (pc + 3) L (.ref (kA K 20) :: st) σ) : V K E Mi pc L (.ref (kA K 19) :: st) σ :=
  V_get (k := 19) (ci := 5) (j := 6) (f := (0, 20)) hE rfl rfl rfl rfl in_X5 (by rw [ho]; exact tw_fl_X5_22) rfl hd kk
theorem gf_X5_26 {K : Ctx} {E : ME} {Mi : MI} {d pc : Nat} {L : List (Option Value)} {st : List Value} {σ : Sto} (hE : Ok K E Mi d) (ho : Mi.1.cls = RX5) (hd : decode Mi.2.1 pc = .ok (.getfield 26, 3)) (kk : V K E Mi (pc + 3) L (.ref (kA K 21) :: st) σ) : V K E Mi pc L (.ref (kA K 19) :: st) σ :=
  V_get (k := 19) (ci := 5) (j := 7) (f := (0, 21)) hE rfl rfl rfl rfl in_X5 (by rw [ho]; exact tw_fl_X5_26) rfl hd kk
theorem gf_X5_29 {K : Ctx} {E : ME} {Mi : MI} {d pc : Nat} {L : List (Option Value)} {st : List Value} {σ : Sto} (hE : Ok K E Mi d) (ho : Mi.1.cls = RX5) (hd : decode Mi.2.1 pc = .ok (.getfield 29, 3)) (kk : V K E Mi (pc + 3) L (.ref (kA K 22) :: st) σ) : V K E Mi pc L (.ref (kA K 19) :: st) σ :=
  V_get (k := 19) (ci := 5) (j := 8) (f := (0, 22)) hE rfl rfl rfl rfl in_X5 (by rw [ho]; exact tw_fl_X5_29) rfl hd kk
theorem gf_X5_33 {K : Ctx} {E : ME} {Mi : MI} {d pc : Nat} {L : List (Option Value)} {st : List Value} {σ : Sto} (hE : Ok K E Mi d) (ho : Mi.1.cls = RX5) (hd : decode Mi.2.1 pc = .ok (.getfield 33, 3)) (kk : V K E Mi (pc + 3) L (.ref (kA K 23) :: st) σ) : V K E Mi pc L (.ref (kA K 19) :: st) σ :=
  V_get (k := 19) (ci := 5) (j := 10) (f := (0, 23)) hE rfl rfl rfl rfl in_X5 (by rw [ho]; exact tw_fl_X5_33) rfl hd kk
theorem gf_X5_36 {K : Ctx} {E : ME} {Mi : MI} {d pc : Nat} {L : List (Option Value)} {st : List Value} {σ : Sto} (hE : Ok K E Mi d) (ho : Mi.1.cls = RX5) (hd : decode Mi.2.1 pc = .ok (.getfield 36, 3)) (kk : V K E Mi (pc + 3) L (.ref (kA K 24) :: st) σ) : V K E Mi pc L (.ref (kA K 19) :: st) σ :=
  V_get (k := 19) (ci := 5) (j := 11) (f := (0, 24)) hE rfl rfl rfl rfl in_X5 (by rw [ho]; exact tw_fl_X5_36) rfl hd kk
theorem gf_X5_39 {K : Ctx} {E : ME} {Mi : MI} {d pc : Nat} {L : List (Option Value)} {st : List Value} {σ : Sto} (hE : Ok K E Mi d) (ho : Mi.1.cls = RX5) (hd : decode Mi.2.1 pc = .ok (.getfield 39, 3)) (kk : V K E Mi (pc + 3) L (.ref (kA K 25) :: st) σ) : V K E Mi pc L (.ref (kA K 19) :: st) σ :=
  V_get (k := 19) (ci := 5) (j := 12) (f := (0, 25)) hE rfl rfl rfl rfl in_X5 (by rw [ho]; exact tw_fl_X5_39) rfl hd kk
theorem gf_X5_42 {K : Ctx} {E : ME} {Mi : MI} {d pc : Nat} {L : List (Option Value)} {st : List Value} {σ : Sto} (hE : Ok K E Mi d) (ho : Mi.1.cls = RX5) (hd : decode Mi.2.1 pc = .ok (.getfield 42, 3)) (kk : V K E Mi (pc + 3) L (.ref (kA K 26) :: st) σ) : V K E Mi pc L (.ref (kA K 19) :: st) σ :=
  V_get (k := 19) (ci := 5) (j := 13) (f := (0, 26)) hE rfl rfl rfl rfl in_X5 (by rw [ho]; exact tw_fl_X5_42) rfl hd kk
theorem gf_X5_45 {K : Ctx} {E : ME} {Mi : MI} {d pc : Nat} {L : List (Option Value)} {st : List Value} {σ : Sto} (hE : Ok K E Mi d) (ho : Mi.1.cls = RX5) (hd : decode Mi.2.1 pc = .ok (.getfield 45, 3)) (kk : V K E Mi (pc + 3) L (.ref (kA K 27) :: st) σ) : V K E Mi pc L (.ref (kA K 19) :: st) σ :=
  V_get (k := 19) (ci := 5) (j := 15) (f := (0, 27)) hE rfl rfl rfl rfl in_X5 (by rw [ho]; exact tw_fl_X5_45) rfl hd kk
theorem gf_X5_48 {K : Ctx} {E : ME} {Mi : MI} {d pc : Nat} {L : List (Option Value)} {st : List Value} {σ : Sto} (hE : Ok K E Mi d) (ho : Mi.1.cls = RX5) (hd : decode Mi.2.1 pc = .ok (.getfield 48, 3)) (kk : V K E Mi (pc + 3) L (.ref (kA K 28) :: st) σ) : V K E Mi pc L (.ref (kA K 19) :: st) σ :=
  V_get (k := 19) (ci := 5) (j := 16) (f := (0, 28)) hE rfl rfl rfl rfl in_X5 (by rw [ho]; exact tw_fl_X5_48) rfl hd kk
theorem gf_X5_52 {K : Ctx} {E : ME} {Mi : MI} {d pc : Nat} {L : List (Option Value)} {st : List Value} {σ : Sto} (hE : Ok K E Mi d) (ho : Mi.1.cls = RX5) (hd : decode Mi.2.1 pc = .ok (.getfield 52, 3)) (kk : V K E Mi (pc + 3) L (.ref (kA K 29) :: st) σ) : V K E Mi pc L (.ref (kA K 19) :: st) σ :=
  V_get (k := 19) (ci := 5) (j := 17) (f := (0, 29)) hE rfl rfl rfl rfl in_X5 (by rw [ho]; exact tw_fl_X5_52) rfl hd kk
theorem gf_X5_55 {K : Ctx} {E : ME} {Mi : MI} {d pc : Nat} {L : List (Option Value)} {st : List Value} {σ : Sto} (hE : Ok K E Mi d) (ho : Mi.1.cls = RX5) (hd : decode Mi.2.1 pc = .ok (.getfield 55, 3)) (kk : V K E Mi (pc + 3) L (.ref (kA K 30) :: st) σ) : V K E Mi pc L (.ref (kA K 19) :: st) σ :=
  V_get (k := 19) (ci := 5) (j := 20) (f := (0, 30)) hE rfl rfl rfl rfl in_X5 (by rw [ho]; exact tw_fl_X5_55) rfl hd kk
theorem gf_X5_58 {K : Ctx} {E : ME} {Mi : MI} {d pc : Nat} {L : List (Option Value)} {st : List Value} {σ : Sto} (hE : Ok K E Mi d) (ho : Mi.1.cls = RX5) (hd : decode Mi.2.1 pc = .ok (.getfield 58, 3)) (kk : V K E Mi (pc + 3) L (.ref (kA K 31) :: st) σ) : V K E Mi pc L (.ref (kA K 19) :: st) σ :=
  V_get (k := 19) (ci := 5) (j := 21) (f := (0, 31)) hE rfl rfl rfl rfl in_X5 (by rw [ho]; exact tw_fl_X5_58) rfl hd kk
theorem gf_X5_61 {K : Ctx} {E : ME} {Mi : MI} {d pc : Nat} {L : List (Option Value)} {st : List Value} {σ : Sto} (hE : Ok K E Mi d) (ho : Mi.1.cls = RX5) (hd : decode Mi.2.1 pc = .ok (.getfield 61, 3)) (kk : V K E Mi (pc + 3) L (.int (i32 (σ 110 0)) :: st) σ) : V K E Mi pc L (.ref (kA K 19) :: st) σ :=
  V_get (k := 19) (ci := 5) (j := 0) (f := (1, 110)) hE rfl rfl rfl rfl in_X5 (by rw [ho]; exact tw_fl_X5_61) rfl hd kk
theorem gf_X5_64 {K : Ctx} {E : ME} {Mi : MI} {d pc : Nat} {L : List (Option Value)} {st : List Value} {σ : Sto} (hE : Ok K E Mi d) (ho : Mi.1.cls = RX5) (hd : decode Mi.2.1 pc = .ok (.getfield 64, 3)) (kk : V K E Mi (pc + 3) L (.int (i32 (σ 111 0)) :: st) σ) : V K E Mi pc L (.ref (kA K 19) :: st) σ :=
  V_get (k := 19) (ci := 5) (j := 1) (f := (1, 111)) hE rfl rfl rfl rfl in_X5 (by rw [ho]; exact tw_fl_X5_64) rfl hd kk
theorem gf_X5_97 {K : Ctx} {E : ME} {Mi : MI} {d pc : Nat} {L : List (Option Value)} {st : List Value} {σ : Sto} (hE : Ok K E Mi d) (ho : Mi.1.cls = RX5) (hd : decode Mi.2.1 pc = .ok (.getfield 97, 3)) (kk : V K E Mi (pc + 3) L (.int (i32 (σ 116 0)) :: st) σ) : V K E Mi pc L (.ref (kA K 19) :: st) σ :=
  V_get (k := 19) (ci := 5) (j := 9) (f := (1, 116)) hE rfl rfl rfl rfl in_X5 (by rw [ho]; exact tw_fl_X5_97) rfl hd kk
theorem gf_X5_142 {K : Ctx} {E : ME} {Mi : MI} {d pc : Nat} {L : List (Option Value)} {st : List Value} {σ : Sto} (hE : Ok K E Mi d) (ho : Mi.1.cls = RX5) (hd : decode Mi.2.1 pc = .ok (.getfield 142, 3)) (kk : V K E Mi (pc + 3) L (.int (i32 (σ 117 0)) :: st) σ) : V K E Mi pc L (.ref (kA K 19) :: st) σ :=
  V_get (k := 19) (ci := 5) (j := 14) (f := (1, 117)) hE rfl rfl rfl rfl in_X5 (by rw [ho]; exact tw_fl_X5_142) rfl hd kk
theorem gf_X5_191 {K : Ctx} {E : ME} {Mi : MI} {d pc : Nat} {L : List (Option Value)} {st : List Value} {σ : Sto} (hE : Ok K E Mi d) (ho : Mi.1.cls = RX5) (hd : decode Mi.2.1 pc = .ok (.getfield 191, 3)) (kk : V K E Mi (pc + 3) L (.long (i64 (σ 119 0)) :: st) σ) : V K E Mi pc L (.ref (kA K 19) :: st) σ :=
  V_get (k := 19) (ci := 5) (j := 19) (f := (2, 119)) hE rfl rfl rfl rfl in_X5 (by rw [ho]; exact tw_fl_X5_191) rfl hd kk
theorem gf_X5_195 {K : Ctx} {E : ME} {Mi : MI} {d pc : Nat} {L : List (Option Value)} {st : List Value} {σ : Sto} (hE : Ok K E Mi d) (ho : Mi.1.cls = RX5) (hd : decode Mi.2.1 pc = .ok (.getfield 195, 3)) (kk : V K E Mi (pc + 3) L (.long (i64 (σ 118 0)) :: st) σ) : V K E Mi pc L (.ref (kA K 19) :: st) σ :=
  V_get (k := 19) (ci := 5) (j := 18) (f := (2, 118)) hE rfl rfl rfl rfl in_X5 (by rw [ho]; exact tw_fl_X5_195) rfl hd kk
theorem pf_X0_22 {K : Ctx} {E : ME} {Mi : MI} {d pc : Nat} {L : List (Option Value)} {st : List Value} {σ : Sto} {x : Int} (hE : Ok K E Mi d) (ho : Mi.1.cls = RX0) (hd : decode Mi.2.1 pc = .ok (.putfield 22, 3)) (kk : V K E Mi (pc + 3) L st (up σ 100 0 x)) : V K E Mi pc L (.int (i32 x) :: .ref (kA K 1) :: st) σ :=
  V_put (k := 1) (ci := 0) (j := 3) (dd := 100) hE rfl rfl rfl in_X0 tyX0_ok nmX0 (by rw [ho]; exact tw_fl_X0_22) rfl rfl (by decide +kernel) rfl (by decide) (by decide +kernel) (fun v => by simp [fv, up]) hd kk
theorem pf_X0_26 {K : Ctx} {E : ME} {Mi : MI} {d pc : Nat} {L : List (Option Value)} {st : List Value} {σ : Sto} {x : Int} (hE : Ok K E Mi d) (ho : Mi.1.cls = RX0) (hd : decode Mi.2.1 pc = .ok (.putfield 26, 3)) (kk : V K E Mi (pc + 3) L st (up σ 101 0 x)) : V K E Mi pc L (.int (i32 x) :: .ref (kA K 1) :: st) σ :=
  V_put (k := 1) (ci := 0) (j := 4) (dd := 101) hE rfl rfl rfl in_X0 tyX0_ok nmX0 (by rw [ho]; exact tw_fl_X0_26) rfl rfl (by decide +kernel) rfl (by decide) (by decide +kernel) (fun v => by simp [fv, up]) hd kk
theorem pf_X0_37 {K : Ctx} {E : ME} {Mi : MI} {d pc : Nat} {L : List (Option Value)} {st : List Value} {σ : Sto} {x : Int} (hE : Ok K E Mi d) (ho : Mi.1.cls = RX0) (hd : decode Mi.2.1 pc = .ok (.putfield 37, 3)) (kk : V K E Mi (pc + 3) L st (up σ 102 0 x)) : V K E Mi pc L (.int (i32 x) :: .ref (kA K 2) :: st) σ :=
  V_putN (k := 2) (ci := 3) (j := 1) (dd := 102) hE rfl rfl rfl in_X3 tyX3_ok nmX3 (by rw [ho]; exact nw_fl_X0_37) rfl rfl (by decide +kernel) rfl (by decide) (by decide +kernel) (fun v => by simp [fv, up]) hd kk
theorem pf_X2_36 {K : Ctx} {E : ME} {Mi : MI} {d pc : Nat} {L : List (Option Value)} {st : List Value} {σ : Sto} {x : Int} (hE : Ok K E Mi d) (ho : Mi.1.cls = RX2) (hd : decode Mi.2.1 pc = .ok (.putfield 36, 3)) (kk : V K E Mi (pc + 3) L st (up σ 103 0 x)) : V K E Mi pc L (.int (i32 x) :: .ref (kA K 3) :: st) σ :=
  V_put (k := 3) (ci := 2) (j := 5) (dd := 103) hE rfl rfl rfl in_X2 tyX2_ok nmX2 (by rw [ho]; exact tw_fl_X2_36) rfl rfl (by decide +kernel) rfl (by decide) (by decide +kernel) (fun v => by simp [fv, up]) hd kk
theorem pf_X2_40 {K : Ctx} {E : ME} {Mi : MI} {d pc : Nat} {L : List (Option Value)} {st : List Value} {σ : Sto} {x : Int} (hE : Ok K E Mi d) (ho : Mi.1.cls = RX2) (hd : decode Mi.2.1 pc = .ok (.putfield 40, 3)) (kk : V K E Mi (pc + 3) L st (up σ 104 0 x)) : V K E Mi pc L (.int (i32 x) :: .ref (kA K 3) :: st) σ :=
  V_put (k := 3) (ci := 2) (j := 6) (dd := 104) hE rfl rfl rfl in_X2 tyX2_ok nmX2 (by rw [ho]; exact tw_fl_X2_40) rfl rfl (by decide +kernel) rfl (by decide) (by decide +kernel) (fun v => by simp [fv, up]) hd kk
theorem pf_X5_7 {K : Ctx} {E : ME} {Mi : MI} {d pc : Nat} {L : List (Option Value)} {st : List Value} {σ : Sto} {x : Int} (hE : Ok K E Mi d) (ho : Mi.1.cls = RX5) (hd : decode Mi.2.1 pc = .ok (.putfield 7, 3)) (kk : V K E Mi (pc + 3) L st (up σ 112 0 x)) : V K E Mi pc L (.int (i32 x) :: .ref (kA K 19) :: st) σ :=
  V_put (k := 19) (ci := 5) (j := 2) (dd := 112) hE rfl rfl rfl in_X5 tyX5_ok nmX5 (by rw [ho]; exact tw_fl_X5_7) rfl rfl (by decide +kernel) rfl (by decide) (by decide +kernel) (fun v => by simp [fv, up]) hd kk
theorem pf_X5_13 {K : Ctx} {E : ME} {Mi : MI} {d pc : Nat} {L : List (Option Value)} {st : List Value} {σ : Sto} {x : Int} (hE : Ok K E Mi d) (ho : Mi.1.cls = RX5) (hd : decode Mi.2.1 pc = .ok (.putfield 13, 3)) (kk : V K E Mi (pc + 3) L st (up σ 113 0 x)) : V K E Mi pc L (.int (i32 x) :: .ref (kA K 19) :: st) σ :=
  V_put (k := 19) (ci := 5) (j := 3) (dd := 113) hE rfl rfl rfl in_X5 tyX5_ok nmX5 (by rw [ho]; exact tw_fl_X5_13) rfl rfl (by decide +kernel) rfl (by decide) (by decide +kernel) (fun v => by simp [fv, up]) hd kk
theorem pf_X5_16 {K : Ctx} {E : ME} {Mi : MI} {d pc : Nat} {L : List (Option Value)} {st : List Value} {σ : Sto} {x : Int} (hE : Ok K E Mi d) (ho : Mi.1.cls = RX5) (hd : decode Mi.2.1 pc = .ok (.putfield 16, 3)) (kk : V K E Mi (pc + 3) L st (up σ 114 0 x)) : V K E Mi pc L (.int (i32 x) :: .ref (kA K 19) :: st) σ :=
  V_put (k := 19) (ci := 5) (j := 4) (dd := 114) hE rfl rfl rfl in_X5 tyX5_ok nmX5 (by rw [ho]; exact tw_fl_X5_16) rfl rfl (by decide +kernel) rfl (by decide) (by decide +kernel) (fun v => by simp [fv, up]) hd kk
theorem pf_X5_19 {K : Ctx} {E : ME} {Mi : MI} {d pc : Nat} {L : List (Option Value)} {st : List Value} {σ : Sto} {x : Int} (hE : Ok K E Mi d) (ho : Mi.1.cls = RX5) (hd : decode Mi.2.1 pc = .ok (.putfield 19, 3)) (kk : V K E Mi (pc + 3) L st (up σ 115 0 x)) : V K E Mi pc L (.int (i32 x) :: .ref (kA K 19) :: st) σ :=
  V_put (k := 19) (ci := 5) (j := 5) (dd := 115) hE rfl rfl rfl in_X5 tyX5_ok nmX5 (by rw [ho]; exact tw_fl_X5_19) rfl rfl (by decide +kernel) rfl (by decide) (by decide +kernel) (fun v => by simp [fv, up]) hd kk
theorem pf_X5_61 {K : Ctx} {E : ME} {Mi : MI} {d pc : Nat} {L : List (Option Value)} {st : List Value} {σ : Sto} {x : Int} (hE : Ok K E Mi d) (ho : Mi.1.cls = RX5) (hd : decode Mi.2.1 pc = .ok (.putfield 61, 3)) (kk : V K E Mi (pc + 3) L st (up σ 110 0 x)) : V K E Mi pc L (.int (i32 x) :: .ref (kA K 19) :: st) σ :=
  V_put (k := 19) (ci := 5) (j := 0) (dd := 110) hE rfl rfl rfl in_X5 tyX5_ok nmX5 (by rw [ho]; exact tw_fl_X5_61) rfl rfl (by decide +kernel) rfl (by decide) (by decide +kernel) (fun v => by simp [fv, up]) hd kk
theorem pf_X5_64 {K : Ctx} {E : ME} {Mi : MI} {d pc : Nat} {L : List (Option Value)} {st : List Value} {σ : Sto} {x : Int} (hE : Ok K E Mi d) (ho : Mi.1.cls = RX5) (hd : decode Mi.2.1 pc = .ok (.putfield 64, 3)) (kk : V K E Mi (pc + 3) L st (up σ 111 0 x)) : V K E Mi pc L (.int (i32 x) :: .ref (kA K 19) :: st) σ :=
  V_put (k := 19) (ci := 5) (j := 1) (dd := 111) hE rfl rfl rfl in_X5 tyX5_ok nmX5 (by rw [ho]; exact tw_fl_X5_64) rfl rfl (by decide +kernel) rfl (by decide) (by decide +kernel) (fun v => by simp [fv, up]) hd kk
theorem pf_X5_97 {K : Ctx} {E : ME} {Mi : MI} {d pc : Nat} {L : List (Option Value)} {st : List Value} {σ : Sto} {x : Int} (hE : Ok K E Mi d) (ho : Mi.1.cls = RX5) (hd : decode Mi.2.1 pc = .ok (.putfield 97, 3)) (kk : V K E Mi (pc + 3) L st (up σ 116 0 x)) : V K E Mi pc L (.int (i32 x) :: .ref (kA K 19) :: st) σ :=
  V_put (k := 19) (ci := 5) (j := 9) (dd := 116) hE rfl rfl rfl in_X5 tyX5_ok nmX5 (by rw [ho]; exact tw_fl_X5_97) rfl rfl (by decide +kernel) rfl (by decide) (by decide +kernel) (fun v => by simp [fv, up]) hd kk
theorem pf_X5_142 {K : Ctx} {E : ME} {Mi : MI} {d pc : Nat} {L : List (Option Value)} {st : List Value} {σ : Sto} {x : Int} (hE : Ok K E Mi d) (ho : Mi.1.cls = RX5) (hd : decode Mi.2.1 pc = .ok (.putfield 142, 3)) (kk : V K E Mi (pc + 3) L st (up σ 117 0 x)) : V K E Mi pc L (.int (i32 x) :: .ref (kA K 19) :: st) σ :=
  V_put (k := 19) (ci := 5) (j := 14) (dd := 117) hE rfl rfl rfl in_X5 tyX5_ok nmX5 (by rw [ho]; exact tw_fl_X5_142) rfl rfl (by decide +kernel) rfl (by decide) (by decide +kernel) (fun v => by simp [fv, up]) hd kk
theorem pf_X5_191 {K : Ctx} {E : ME} {Mi : MI} {d pc : Nat} {L : List (Option Value)} {st : List Value} {σ : Sto} {x : Int} (hE : Ok K E Mi d) (ho : Mi.1.cls = RX5) (hd : decode Mi.2.1 pc = .ok (.putfield 191, 3)) (kk : V K E Mi (pc + 3) L st (up σ 119 0 x)) : V K E Mi pc L (.long (i64 x) :: .ref (kA K 19) :: st) σ :=
  V_putL (k := 19) (ci := 5) (j := 19) (dd := 119) hE rfl rfl rfl in_X5 tyX5_ok nmX5 (by rw [ho]; exact tw_fl_X5_191) rfl rfl (by decide +kernel) rfl (by decide) (by decide +kernel) (fun v => by simp [fv, up]) hd kk
theorem pf_X5_195 {K : Ctx} {E : ME} {Mi : MI} {d pc : Nat} {L : List (Option Value)} {st : List Value} {σ : Sto} {x : Int} (hE : Ok K E Mi d) (ho : Mi.1.cls = RX5) (hd : decode Mi.2.1 pc = .ok (.putfield 195, 3)) (kk : V K E Mi (pc + 3) L st (up σ 118 0 x)) : V K E Mi pc L (.long (i64 x) :: .ref (kA K 19) :: st) σ :=
  V_putL (k := 19) (ci := 5) (j := 18) (dd := 118) hE rfl rfl rfl in_X5 tyX5_ok nmX5 (by rw [ho]; exact tw_fl_X5_195) rfl rfl (by decide +kernel) rfl (by decide) (by decide +kernel) (fun v => by simp [fv, up]) hd kk
theorem nm_X4_hull : NmOk mX4_hull 2 := ⟨⟨by decide +kernel, by decide +kernel, by decide +kernel⟩, by decide⟩
theorem cl_L_13 {K : Ctx} {E : ME} {Mi : MI} {d dc pc : Nat} {L : List (Option Value)} {rest : List Value} {σ : Sto} {a1 a2 : Value} {post : Int → Sto → Prop} (hE : Ok K E Mi d) (ho : Mi.1.cls = RL) (hd : decode Mi.2.1 pc = .ok (.invokevirtual 13, 3)) (hc : CtI K mX4_hull dc [.ref (kA K 0), a1, a2] σ post) (hdc : Nat.blt dc d = true) (h8 : Nat.ble (rest.map fun v => v.category).sum 8 = true) (kk : ∀ (r : Int) (σ' : Sto), post r σ' → V K E Mi (pc + 3) L (.int (i32 r) :: rest) σ') : V K E Mi pc L (a2 :: a1 :: .ref (kA K 0) :: rest) σ :=
  V_callI hE (run_V (k := 0) (n := 2) (As := [a1, a2]) hE rfl rfl (by rw [ho]; exact tw_ml_L_13) tw_ins_X4_hull tw_sel_X4_hull tw_ini_X4 tw_cod_X4_hull nm_X4_hull hdc rfl h8 hc hd) kk
theorem cf_L_13 {K : Ctx} {E : ME} {Mi : MI} {d dc pc : Nat} {L : List (Option Value)} {rest : List Value} {σ : Sto} {a1 a2 : Value} {R0 : Int} {S : Sto} (hE : Ok K E Mi d) (ho : Mi.1.cls = RL) (hd : decode Mi.2.1 pc = .ok (.invokevirtual 13, 3)) (hc : CtI K mX4_hull dc [.ref (kA K 0), a1, a2] σ (fun r σ' => r = R0 ∧ σ' = S)) (hdc : Nat.blt dc d = true) (h8 : Nat.ble (rest.map fun v => v.category).sum 8 = true) (kk : V K E Mi (pc + 3) L (.int (i32 R0) :: rest) S) : V K E Mi pc L (a2 :: a1 :: .ref (kA K 0) :: rest) σ :=
  cl_L_13 hE ho hd hc hdc h8 (fun _ _ h => by rw [h.1, h.2]; exact kk)
theorem nm_X5_hull : NmOk mX5_hull 2 := ⟨⟨by decide +kernel, by decide +kernel, by decide +kernel⟩, by decide⟩
theorem cl_L_17 {K : Ctx} {E : ME} {Mi : MI} {d dc pc : Nat} {L : List (Option Value)} {rest : List Value} {σ : Sto} {a1 a2 : Value} {post : Int → Sto → Prop} (hE : Ok K E Mi d) (ho : Mi.1.cls = RL) (hd : decode Mi.2.1 pc = .ok (.invokevirtual 17, 3)) (hc : CtI K mX5_hull dc [.ref (kA K 19), a1, a2] σ post) (hdc : Nat.blt dc d = true) (h8 : Nat.ble (rest.map fun v => v.category).sum 8 = true) (kk : ∀ (r : Int) (σ' : Sto), post r σ' → V K E Mi (pc + 3) L (.int (i32 r) :: rest) σ') : V K E Mi pc L (a2 :: a1 :: .ref (kA K 19) :: rest) σ :=
  V_callI hE (run_V (k := 19) (n := 2) (As := [a1, a2]) hE rfl rfl (by rw [ho]; exact tw_ml_L_17) tw_ins_X5_hull tw_sel_X5_hull tw_ini_X5 tw_cod_X5_hull nm_X5_hull hdc rfl h8 hc hd) kk
theorem cf_L_17 {K : Ctx} {E : ME} {Mi : MI} {d dc pc : Nat} {L : List (Option Value)} {rest : List Value} {σ : Sto} {a1 a2 : Value} {R0 : Int} {S : Sto} (hE : Ok K E Mi d) (ho : Mi.1.cls = RL) (hd : decode Mi.2.1 pc = .ok (.invokevirtual 17, 3)) (hc : CtI K mX5_hull dc [.ref (kA K 19), a1, a2] σ (fun r σ' => r = R0 ∧ σ' = S)) (hdc : Nat.blt dc d = true) (h8 : Nat.ble (rest.map fun v => v.category).sum 8 = true) (kk : V K E Mi (pc + 3) L (.int (i32 R0) :: rest) S) : V K E Mi pc L (a2 :: a1 :: .ref (kA K 19) :: rest) σ :=
  cl_L_17 hE ho hd hc hdc h8 (fun _ _ h => by rw [h.1, h.2]; exact kk)
theorem nm_X4_offset : NmOk mX4_offset 3 := ⟨⟨by decide +kernel, by decide +kernel, by decide +kernel⟩, by decide⟩
theorem cl_L_18 {K : Ctx} {E : ME} {Mi : MI} {d dc pc : Nat} {L : List (Option Value)} {rest : List Value} {σ : Sto} {a1 a2 a3 : Value} {post : Int → Sto → Prop} (hE : Ok K E Mi d) (ho : Mi.1.cls = RL) (hd : decode Mi.2.1 pc = .ok (.invokevirtual 18, 3)) (hc : CtI K mX4_offset dc [.ref (kA K 0), a1, a2, a3] σ post) (hdc : Nat.blt dc d = true) (h8 : Nat.ble (rest.map fun v => v.category).sum 8 = true) (kk : ∀ (r : Int) (σ' : Sto), post r σ' → V K E Mi (pc + 3) L (.int (i32 r) :: rest) σ') : V K E Mi pc L (a3 :: a2 :: a1 :: .ref (kA K 0) :: rest) σ :=
  V_callI hE (run_V (k := 0) (n := 3) (As := [a1, a2, a3]) hE rfl rfl (by rw [ho]; exact tw_ml_L_18) tw_ins_X4_offset tw_sel_X4_offset tw_ini_X4 tw_cod_X4_offset nm_X4_offset hdc rfl h8 hc hd) kk
theorem cf_L_18 {K : Ctx} {E : ME} {Mi : MI} {d dc pc : Nat} {L : List (Option Value)} {rest : List Value} {σ : Sto} {a1 a2 a3 : Value} {R0 : Int} {S : Sto} (hE : Ok K E Mi d) (ho : Mi.1.cls = RL) (hd : decode Mi.2.1 pc = .ok (.invokevirtual 18, 3)) (hc : CtI K mX4_offset dc [.ref (kA K 0), a1, a2, a3] σ (fun r σ' => r = R0 ∧ σ' = S)) (hdc : Nat.blt dc d = true) (h8 : Nat.ble (rest.map fun v => v.category).sum 8 = true) (kk : V K E Mi (pc + 3) L (.int (i32 R0) :: rest) S) : V K E Mi pc L (a3 :: a2 :: a1 :: .ref (kA K 0) :: rest) σ :=
  cl_L_18 hE ho hd hc hdc h8 (fun _ _ h => by rw [h.1, h.2]; exact kk)
theorem nm_X5_offset : NmOk mX5_offset 3 := ⟨⟨by decide +kernel, by decide +kernel, by decide +kernel⟩, by decide⟩
theorem cl_L_22 {K : Ctx} {E : ME} {Mi : MI} {d dc pc : Nat} {L : List (Option Value)} {rest : List Value} {σ : Sto} {a1 a2 a3 : Value} {post : Int → Sto → Prop} (hE : Ok K E Mi d) (ho : Mi.1.cls = RL) (hd : decode Mi.2.1 pc = .ok (.invokevirtual 22, 3)) (hc : CtI K mX5_offset dc [.ref (kA K 19), a1, a2, a3] σ post) (hdc : Nat.blt dc d = true) (h8 : Nat.ble (rest.map fun v => v.category).sum 8 = true) (kk : ∀ (r : Int) (σ' : Sto), post r σ' → V K E Mi (pc + 3) L (.int (i32 r) :: rest) σ') : V K E Mi pc L (a3 :: a2 :: a1 :: .ref (kA K 19) :: rest) σ :=
  V_callI hE (run_V (k := 19) (n := 3) (As := [a1, a2, a3]) hE rfl rfl (by rw [ho]; exact tw_ml_L_22) tw_ins_X5_offset tw_sel_X5_offset tw_ini_X5 tw_cod_X5_offset nm_X5_offset hdc rfl h8 hc hd) kk
theorem cf_L_22 {K : Ctx} {E : ME} {Mi : MI} {d dc pc : Nat} {L : List (Option Value)} {rest : List Value} {σ : Sto} {a1 a2 a3 : Value} {R0 : Int} {S : Sto} (hE : Ok K E Mi d) (ho : Mi.1.cls = RL) (hd : decode Mi.2.1 pc = .ok (.invokevirtual 22, 3)) (hc : CtI K mX5_offset dc [.ref (kA K 19), a1, a2, a3] σ (fun r σ' => r = R0 ∧ σ' = S)) (hdc : Nat.blt dc d = true) (h8 : Nat.ble (rest.map fun v => v.category).sum 8 = true) (kk : V K E Mi (pc + 3) L (.int (i32 R0) :: rest) S) : V K E Mi pc L (a3 :: a2 :: a1 :: .ref (kA K 19) :: rest) σ :=
  cl_L_22 hE ho hd hc hdc h8 (fun _ _ h => by rw [h.1, h.2]; exact kk)
theorem nm_X4_hold : NmOk mX4_hold 3 := ⟨⟨by decide +kernel, by decide +kernel, by decide +kernel⟩, by decide⟩
theorem cl_L_23 {K : Ctx} {E : ME} {Mi : MI} {d dc pc : Nat} {L : List (Option Value)} {rest : List Value} {σ : Sto} {a1 a2 a3 : Value} {post : Int → Sto → Prop} (hE : Ok K E Mi d) (ho : Mi.1.cls = RL) (hd : decode Mi.2.1 pc = .ok (.invokevirtual 23, 3)) (hc : CtI K mX4_hold dc [.ref (kA K 0), a1, a2, a3] σ post) (hdc : Nat.blt dc d = true) (h8 : Nat.ble (rest.map fun v => v.category).sum 8 = true) (kk : ∀ (r : Int) (σ' : Sto), post r σ' → V K E Mi (pc + 3) L (.int (i32 r) :: rest) σ') : V K E Mi pc L (a3 :: a2 :: a1 :: .ref (kA K 0) :: rest) σ :=
  V_callI hE (run_V (k := 0) (n := 3) (As := [a1, a2, a3]) hE rfl rfl (by rw [ho]; exact tw_ml_L_23) tw_ins_X4_hold tw_sel_X4_hold tw_ini_X4 tw_cod_X4_hold nm_X4_hold hdc rfl h8 hc hd) kk
theorem cf_L_23 {K : Ctx} {E : ME} {Mi : MI} {d dc pc : Nat} {L : List (Option Value)} {rest : List Value} {σ : Sto} {a1 a2 a3 : Value} {R0 : Int} {S : Sto} (hE : Ok K E Mi d) (ho : Mi.1.cls = RL) (hd : decode Mi.2.1 pc = .ok (.invokevirtual 23, 3)) (hc : CtI K mX4_hold dc [.ref (kA K 0), a1, a2, a3] σ (fun r σ' => r = R0 ∧ σ' = S)) (hdc : Nat.blt dc d = true) (h8 : Nat.ble (rest.map fun v => v.category).sum 8 = true) (kk : V K E Mi (pc + 3) L (.int (i32 R0) :: rest) S) : V K E Mi pc L (a3 :: a2 :: a1 :: .ref (kA K 0) :: rest) σ :=
  cl_L_23 hE ho hd hc hdc h8 (fun _ _ h => by rw [h.1, h.2]; exact kk)
theorem nm_X5_hold : NmOk mX5_hold 3 := ⟨⟨by decide +kernel, by decide +kernel, by decide +kernel⟩, by decide⟩
theorem cl_L_27 {K : Ctx} {E : ME} {Mi : MI} {d dc pc : Nat} {L : List (Option Value)} {rest : List Value} {σ : Sto} {a1 a2 a3 : Value} {post : Int → Sto → Prop} (hE : Ok K E Mi d) (ho : Mi.1.cls = RL) (hd : decode Mi.2.1 pc = .ok (.invokevirtual 27, 3)) (hc : CtI K mX5_hold dc [.ref (kA K 19), a1, a2, a3] σ post) (hdc : Nat.blt dc d = true) (h8 : Nat.ble (rest.map fun v => v.category).sum 8 = true) (kk : ∀ (r : Int) (σ' : Sto), post r σ' → V K E Mi (pc + 3) L (.int (i32 r) :: rest) σ') : V K E Mi pc L (a3 :: a2 :: a1 :: .ref (kA K 19) :: rest) σ :=
  V_callI hE (run_V (k := 19) (n := 3) (As := [a1, a2, a3]) hE rfl rfl (by rw [ho]; exact tw_ml_L_27) tw_ins_X5_hold tw_sel_X5_hold tw_ini_X5 tw_cod_X5_hold nm_X5_hold hdc rfl h8 hc hd) kk
theorem cf_L_27 {K : Ctx} {E : ME} {Mi : MI} {d dc pc : Nat} {L : List (Option Value)} {rest : List Value} {σ : Sto} {a1 a2 a3 : Value} {R0 : Int} {S : Sto} (hE : Ok K E Mi d) (ho : Mi.1.cls = RL) (hd : decode Mi.2.1 pc = .ok (.invokevirtual 27, 3)) (hc : CtI K mX5_hold dc [.ref (kA K 19), a1, a2, a3] σ (fun r σ' => r = R0 ∧ σ' = S)) (hdc : Nat.blt dc d = true) (h8 : Nat.ble (rest.map fun v => v.category).sum 8 = true) (kk : V K E Mi (pc + 3) L (.int (i32 R0) :: rest) S) : V K E Mi pc L (a3 :: a2 :: a1 :: .ref (kA K 19) :: rest) σ :=
  cl_L_27 hE ho hd hc hdc h8 (fun _ _ h => by rw [h.1, h.2]; exact kk)
theorem nm_X4_setting : NmOk mX4_setting 2 := ⟨⟨by decide +kernel, by decide +kernel, by decide +kernel⟩, by decide⟩
theorem cl_L_28 {K : Ctx} {E : ME} {Mi : MI} {d dc pc : Nat} {L : List (Option Value)} {rest : List Value} {σ : Sto} {a1 a2 : Value} {post : Int → Sto → Prop} (hE : Ok K E Mi d) (ho : Mi.1.cls = RL) (hd : decode Mi.2.1 pc = .ok (.invokevirtual 28, 3)) (hc : CtI K mX4_setting dc [.ref (kA K 0), a1, a2] σ post) (hdc : Nat.blt dc d = true) (h8 : Nat.ble (rest.map fun v => v.category).sum 8 = true) (kk : ∀ (r : Int) (σ' : Sto), post r σ' → V K E Mi (pc + 3) L (.int (i32 r) :: rest) σ') : V K E Mi pc L (a2 :: a1 :: .ref (kA K 0) :: rest) σ :=
  V_callI hE (run_V (k := 0) (n := 2) (As := [a1, a2]) hE rfl rfl (by rw [ho]; exact tw_ml_L_28) tw_ins_X4_setting tw_sel_X4_setting tw_ini_X4 tw_cod_X4_setting nm_X4_setting hdc rfl h8 hc hd) kk
theorem cf_L_28 {K : Ctx} {E : ME} {Mi : MI} {d dc pc : Nat} {L : List (Option Value)} {rest : List Value} {σ : Sto} {a1 a2 : Value} {R0 : Int} {S : Sto} (hE : Ok K E Mi d) (ho : Mi.1.cls = RL) (hd : decode Mi.2.1 pc = .ok (.invokevirtual 28, 3)) (hc : CtI K mX4_setting dc [.ref (kA K 0), a1, a2] σ (fun r σ' => r = R0 ∧ σ' = S)) (hdc : Nat.blt dc d = true) (h8 : Nat.ble (rest.map fun v => v.category).sum 8 = true) (kk : V K E Mi (pc + 3) L (.int (i32 R0) :: rest) S) : V K E Mi pc L (a2 :: a1 :: .ref (kA K 0) :: rest) σ :=
  cl_L_28 hE ho hd hc hdc h8 (fun _ _ h => by rw [h.1, h.2]; exact kk)
theorem nm_X5_setting : NmOk mX5_setting 2 := ⟨⟨by decide +kernel, by decide +kernel, by decide +kernel⟩, by decide⟩
theorem cl_L_31 {K : Ctx} {E : ME} {Mi : MI} {d dc pc : Nat} {L : List (Option Value)} {rest : List Value} {σ : Sto} {a1 a2 : Value} {post : Int → Sto → Prop} (hE : Ok K E Mi d) (ho : Mi.1.cls = RL) (hd : decode Mi.2.1 pc = .ok (.invokevirtual 31, 3)) (hc : CtI K mX5_setting dc [.ref (kA K 19), a1, a2] σ post) (hdc : Nat.blt dc d = true) (h8 : Nat.ble (rest.map fun v => v.category).sum 8 = true) (kk : ∀ (r : Int) (σ' : Sto), post r σ' → V K E Mi (pc + 3) L (.int (i32 r) :: rest) σ') : V K E Mi pc L (a2 :: a1 :: .ref (kA K 19) :: rest) σ :=
  V_callI hE (run_V (k := 19) (n := 2) (As := [a1, a2]) hE rfl rfl (by rw [ho]; exact tw_ml_L_31) tw_ins_X5_setting tw_sel_X5_setting tw_ini_X5 tw_cod_X5_setting nm_X5_setting hdc rfl h8 hc hd) kk
theorem cf_L_31 {K : Ctx} {E : ME} {Mi : MI} {d dc pc : Nat} {L : List (Option Value)} {rest : List Value} {σ : Sto} {a1 a2 : Value} {R0 : Int} {S : Sto} (hE : Ok K E Mi d) (ho : Mi.1.cls = RL) (hd : decode Mi.2.1 pc = .ok (.invokevirtual 31, 3)) (hc : CtI K mX5_setting dc [.ref (kA K 19), a1, a2] σ (fun r σ' => r = R0 ∧ σ' = S)) (hdc : Nat.blt dc d = true) (h8 : Nat.ble (rest.map fun v => v.category).sum 8 = true) (kk : V K E Mi (pc + 3) L (.int (i32 R0) :: rest) S) : V K E Mi pc L (a2 :: a1 :: .ref (kA K 19) :: rest) σ :=
  cl_L_31 hE ho hd hc hdc h8 (fun _ _ h => by rw [h.1, h.2]; exact kk)
theorem nm_X4_ofPoint : NmOk mX4_ofPoint 3 := ⟨⟨by decide +kernel, by decide +kernel, by decide +kernel⟩, by decide⟩
theorem cl_L_32 {K : Ctx} {E : ME} {Mi : MI} {d dc pc : Nat} {L : List (Option Value)} {rest : List Value} {σ : Sto} {a1 a2 a3 : Value} {post : Int → Sto → Prop} (hE : Ok K E Mi d) (ho : Mi.1.cls = RL) (hd : decode Mi.2.1 pc = .ok (.invokevirtual 32, 3)) (hc : CtI K mX4_ofPoint dc [.ref (kA K 0), a1, a2, a3] σ post) (hdc : Nat.blt dc d = true) (h8 : Nat.ble (rest.map fun v => v.category).sum 8 = true) (kk : ∀ (r : Int) (σ' : Sto), post r σ' → V K E Mi (pc + 3) L (.int (i32 r) :: rest) σ') : V K E Mi pc L (a3 :: a2 :: a1 :: .ref (kA K 0) :: rest) σ :=
  V_callI hE (run_V (k := 0) (n := 3) (As := [a1, a2, a3]) hE rfl rfl (by rw [ho]; exact tw_ml_L_32) tw_ins_X4_ofPoint tw_sel_X4_ofPoint tw_ini_X4 tw_cod_X4_ofPoint nm_X4_ofPoint hdc rfl h8 hc hd) kk
theorem cf_L_32 {K : Ctx} {E : ME} {Mi : MI} {d dc pc : Nat} {L : List (Option Value)} {rest : List Value} {σ : Sto} {a1 a2 a3 : Value} {R0 : Int} {S : Sto} (hE : Ok K E Mi d) (ho : Mi.1.cls = RL) (hd : decode Mi.2.1 pc = .ok (.invokevirtual 32, 3)) (hc : CtI K mX4_ofPoint dc [.ref (kA K 0), a1, a2, a3] σ (fun r σ' => r = R0 ∧ σ' = S)) (hdc : Nat.blt dc d = true) (h8 : Nat.ble (rest.map fun v => v.category).sum 8 = true) (kk : V K E Mi (pc + 3) L (.int (i32 R0) :: rest) S) : V K E Mi pc L (a3 :: a2 :: a1 :: .ref (kA K 0) :: rest) σ :=
  cl_L_32 hE ho hd hc hdc h8 (fun _ _ h => by rw [h.1, h.2]; exact kk)
theorem nm_X5_ofPoint : NmOk mX5_ofPoint 3 := ⟨⟨by decide +kernel, by decide +kernel, by decide +kernel⟩, by decide⟩
theorem cl_L_35 {K : Ctx} {E : ME} {Mi : MI} {d dc pc : Nat} {L : List (Option Value)} {rest : List Value} {σ : Sto} {a1 a2 a3 : Value} {post : Int → Sto → Prop} (hE : Ok K E Mi d) (ho : Mi.1.cls = RL) (hd : decode Mi.2.1 pc = .ok (.invokevirtual 35, 3)) (hc : CtI K mX5_ofPoint dc [.ref (kA K 19), a1, a2, a3] σ post) (hdc : Nat.blt dc d = true) (h8 : Nat.ble (rest.map fun v => v.category).sum 8 = true) (kk : ∀ (r : Int) (σ' : Sto), post r σ' → V K E Mi (pc + 3) L (.int (i32 r) :: rest) σ') : V K E Mi pc L (a3 :: a2 :: a1 :: .ref (kA K 19) :: rest) σ :=
  V_callI hE (run_V (k := 19) (n := 3) (As := [a1, a2, a3]) hE rfl rfl (by rw [ho]; exact tw_ml_L_35) tw_ins_X5_ofPoint tw_sel_X5_ofPoint tw_ini_X5 tw_cod_X5_ofPoint nm_X5_ofPoint hdc rfl h8 hc hd) kk
theorem cf_L_35 {K : Ctx} {E : ME} {Mi : MI} {d dc pc : Nat} {L : List (Option Value)} {rest : List Value} {σ : Sto} {a1 a2 a3 : Value} {R0 : Int} {S : Sto} (hE : Ok K E Mi d) (ho : Mi.1.cls = RL) (hd : decode Mi.2.1 pc = .ok (.invokevirtual 35, 3)) (hc : CtI K mX5_ofPoint dc [.ref (kA K 19), a1, a2, a3] σ (fun r σ' => r = R0 ∧ σ' = S)) (hdc : Nat.blt dc d = true) (h8 : Nat.ble (rest.map fun v => v.category).sum 8 = true) (kk : V K E Mi (pc + 3) L (.int (i32 R0) :: rest) S) : V K E Mi pc L (a3 :: a2 :: a1 :: .ref (kA K 19) :: rest) σ :=
  cl_L_35 hE ho hd hc hdc h8 (fun _ _ h => by rw [h.1, h.2]; exact kk)
theorem nm_X4_bend : NmOk mX4_bend 3 := ⟨⟨by decide +kernel, by decide +kernel, by decide +kernel⟩, by decide⟩
theorem cl_L_36 {K : Ctx} {E : ME} {Mi : MI} {d dc pc : Nat} {L : List (Option Value)} {rest : List Value} {σ : Sto} {a1 a2 a3 : Value} {post : Int → Sto → Prop} (hE : Ok K E Mi d) (ho : Mi.1.cls = RL) (hd : decode Mi.2.1 pc = .ok (.invokevirtual 36, 3)) (hc : CtI K mX4_bend dc [.ref (kA K 0), a1, a2, a3] σ post) (hdc : Nat.blt dc d = true) (h8 : Nat.ble (rest.map fun v => v.category).sum 8 = true) (kk : ∀ (r : Int) (σ' : Sto), post r σ' → V K E Mi (pc + 3) L (.int (i32 r) :: rest) σ') : V K E Mi pc L (a3 :: a2 :: a1 :: .ref (kA K 0) :: rest) σ :=
  V_callI hE (run_V (k := 0) (n := 3) (As := [a1, a2, a3]) hE rfl rfl (by rw [ho]; exact tw_ml_L_36) tw_ins_X4_bend tw_sel_X4_bend tw_ini_X4 tw_cod_X4_bend nm_X4_bend hdc rfl h8 hc hd) kk
theorem cf_L_36 {K : Ctx} {E : ME} {Mi : MI} {d dc pc : Nat} {L : List (Option Value)} {rest : List Value} {σ : Sto} {a1 a2 a3 : Value} {R0 : Int} {S : Sto} (hE : Ok K E Mi d) (ho : Mi.1.cls = RL) (hd : decode Mi.2.1 pc = .ok (.invokevirtual 36, 3)) (hc : CtI K mX4_bend dc [.ref (kA K 0), a1, a2, a3] σ (fun r σ' => r = R0 ∧ σ' = S)) (hdc : Nat.blt dc d = true) (h8 : Nat.ble (rest.map fun v => v.category).sum 8 = true) (kk : V K E Mi (pc + 3) L (.int (i32 R0) :: rest) S) : V K E Mi pc L (a3 :: a2 :: a1 :: .ref (kA K 0) :: rest) σ :=
  cl_L_36 hE ho hd hc hdc h8 (fun _ _ h => by rw [h.1, h.2]; exact kk)
theorem nm_X5_bend : NmOk mX5_bend 3 := ⟨⟨by decide +kernel, by decide +kernel, by decide +kernel⟩, by decide⟩
theorem cl_L_39 {K : Ctx} {E : ME} {Mi : MI} {d dc pc : Nat} {L : List (Option Value)} {rest : List Value} {σ : Sto} {a1 a2 a3 : Value} {post : Int → Sto → Prop} (hE : Ok K E Mi d) (ho : Mi.1.cls = RL) (hd : decode Mi.2.1 pc = .ok (.invokevirtual 39, 3)) (hc : CtI K mX5_bend dc [.ref (kA K 19), a1, a2, a3] σ post) (hdc : Nat.blt dc d = true) (h8 : Nat.ble (rest.map fun v => v.category).sum 8 = true) (kk : ∀ (r : Int) (σ' : Sto), post r σ' → V K E Mi (pc + 3) L (.int (i32 r) :: rest) σ') : V K E Mi pc L (a3 :: a2 :: a1 :: .ref (kA K 19) :: rest) σ :=
  V_callI hE (run_V (k := 19) (n := 3) (As := [a1, a2, a3]) hE rfl rfl (by rw [ho]; exact tw_ml_L_39) tw_ins_X5_bend tw_sel_X5_bend tw_ini_X5 tw_cod_X5_bend nm_X5_bend hdc rfl h8 hc hd) kk
theorem cf_L_39 {K : Ctx} {E : ME} {Mi : MI} {d dc pc : Nat} {L : List (Option Value)} {rest : List Value} {σ : Sto} {a1 a2 a3 : Value} {R0 : Int} {S : Sto} (hE : Ok K E Mi d) (ho : Mi.1.cls = RL) (hd : decode Mi.2.1 pc = .ok (.invokevirtual 39, 3)) (hc : CtI K mX5_bend dc [.ref (kA K 19), a1, a2, a3] σ (fun r σ' => r = R0 ∧ σ' = S)) (hdc : Nat.blt dc d = true) (h8 : Nat.ble (rest.map fun v => v.category).sum 8 = true) (kk : V K E Mi (pc + 3) L (.int (i32 R0) :: rest) S) : V K E Mi pc L (a3 :: a2 :: a1 :: .ref (kA K 19) :: rest) σ :=
  cl_L_39 hE ho hd hc hdc h8 (fun _ _ h => by rw [h.1, h.2]; exact kk)
theorem nm_X4_jump : NmOk mX4_jump 3 := ⟨⟨by decide +kernel, by decide +kernel, by decide +kernel⟩, by decide⟩
theorem cl_L_40 {K : Ctx} {E : ME} {Mi : MI} {d dc pc : Nat} {L : List (Option Value)} {rest : List Value} {σ : Sto} {a1 a2 a3 : Value} {post : Int → Sto → Prop} (hE : Ok K E Mi d) (ho : Mi.1.cls = RL) (hd : decode Mi.2.1 pc = .ok (.invokevirtual 40, 3)) (hc : CtI K mX4_jump dc [.ref (kA K 0), a1, a2, a3] σ post) (hdc : Nat.blt dc d = true) (h8 : Nat.ble (rest.map fun v => v.category).sum 8 = true) (kk : ∀ (r : Int) (σ' : Sto), post r σ' → V K E Mi (pc + 3) L (.int (i32 r) :: rest) σ') : V K E Mi pc L (a3 :: a2 :: a1 :: .ref (kA K 0) :: rest) σ :=
  V_callI hE (run_V (k := 0) (n := 3) (As := [a1, a2, a3]) hE rfl rfl (by rw [ho]; exact tw_ml_L_40) tw_ins_X4_jump tw_sel_X4_jump tw_ini_X4 tw_cod_X4_jump nm_X4_jump hdc rfl h8 hc hd) kk
theorem cf_L_40 {K : Ctx} {E : ME} {Mi : MI} {d dc pc : Nat} {L : List (Option Value)} {rest : List Value} {σ : Sto} {a1 a2 a3 : Value} {R0 : Int} {S : Sto} (hE : Ok K E Mi d) (ho : Mi.1.cls = RL) (hd : decode Mi.2.1 pc = .ok (.invokevirtual 40, 3)) (hc : CtI K mX4_jump dc [.ref (kA K 0), a1, a2, a3] σ (fun r σ' => r = R0 ∧ σ' = S)) (hdc : Nat.blt dc d = true) (h8 : Nat.ble (rest.map fun v => v.category).sum 8 = true) (kk : V K E Mi (pc + 3) L (.int (i32 R0) :: rest) S) : V K E Mi pc L (a3 :: a2 :: a1 :: .ref (kA K 0) :: rest) σ :=
  cl_L_40 hE ho hd hc hdc h8 (fun _ _ h => by rw [h.1, h.2]; exact kk)
theorem nm_X5_jump : NmOk mX5_jump 3 := ⟨⟨by decide +kernel, by decide +kernel, by decide +kernel⟩, by decide⟩
theorem cl_L_43 {K : Ctx} {E : ME} {Mi : MI} {d dc pc : Nat} {L : List (Option Value)} {rest : List Value} {σ : Sto} {a1 a2 a3 : Value} {post : Int → Sto → Prop} (hE : Ok K E Mi d) (ho : Mi.1.cls = RL) (hd : decode Mi.2.1 pc = .ok (.invokevirtual 43, 3)) (hc : CtI K mX5_jump dc [.ref (kA K 19), a1, a2, a3] σ post) (hdc : Nat.blt dc d = true) (h8 : Nat.ble (rest.map fun v => v.category).sum 8 = true) (kk : ∀ (r : Int) (σ' : Sto), post r σ' → V K E Mi (pc + 3) L (.int (i32 r) :: rest) σ') : V K E Mi pc L (a3 :: a2 :: a1 :: .ref (kA K 19) :: rest) σ :=
  V_callI hE (run_V (k := 19) (n := 3) (As := [a1, a2, a3]) hE rfl rfl (by rw [ho]; exact tw_ml_L_43) tw_ins_X5_jump tw_sel_X5_jump tw_ini_X5 tw_cod_X5_jump nm_X5_jump hdc rfl h8 hc hd) kk
theorem cf_L_43 {K : Ctx} {E : ME} {Mi : MI} {d dc pc : Nat} {L : List (Option Value)} {rest : List Value} {σ : Sto} {a1 a2 a3 : Value} {R0 : Int} {S : Sto} (hE : Ok K E Mi d) (ho : Mi.1.cls = RL) (hd : decode Mi.2.1 pc = .ok (.invokevirtual 43, 3)) (hc : CtI K mX5_jump dc [.ref (kA K 19), a1, a2, a3] σ (fun r σ' => r = R0 ∧ σ' = S)) (hdc : Nat.blt dc d = true) (h8 : Nat.ble (rest.map fun v => v.category).sum 8 = true) (kk : V K E Mi (pc + 3) L (.int (i32 R0) :: rest) S) : V K E Mi pc L (a3 :: a2 :: a1 :: .ref (kA K 19) :: rest) σ :=
  cl_L_43 hE ho hd hc hdc h8 (fun _ _ h => by rw [h.1, h.2]; exact kk)
theorem nm_X4_roughest : NmOk mX4_roughest 1 := ⟨⟨by decide +kernel, by decide +kernel, by decide +kernel⟩, by decide⟩
theorem cl_L_44 {K : Ctx} {E : ME} {Mi : MI} {d dc pc : Nat} {L : List (Option Value)} {rest : List Value} {σ : Sto} {a1 : Value} {post : Int → Sto → Prop} (hE : Ok K E Mi d) (ho : Mi.1.cls = RL) (hd : decode Mi.2.1 pc = .ok (.invokevirtual 44, 3)) (hc : CtI K mX4_roughest dc [.ref (kA K 0), a1] σ post) (hdc : Nat.blt dc d = true) (h8 : Nat.ble (rest.map fun v => v.category).sum 8 = true) (kk : ∀ (r : Int) (σ' : Sto), post r σ' → V K E Mi (pc + 3) L (.int (i32 r) :: rest) σ') : V K E Mi pc L (a1 :: .ref (kA K 0) :: rest) σ :=
  V_callI hE (run_V (k := 0) (n := 1) (As := [a1]) hE rfl rfl (by rw [ho]; exact tw_ml_L_44) tw_ins_X4_roughest tw_sel_X4_roughest tw_ini_X4 tw_cod_X4_roughest nm_X4_roughest hdc rfl h8 hc hd) kk
theorem cf_L_44 {K : Ctx} {E : ME} {Mi : MI} {d dc pc : Nat} {L : List (Option Value)} {rest : List Value} {σ : Sto} {a1 : Value} {R0 : Int} {S : Sto} (hE : Ok K E Mi d) (ho : Mi.1.cls = RL) (hd : decode Mi.2.1 pc = .ok (.invokevirtual 44, 3)) (hc : CtI K mX4_roughest dc [.ref (kA K 0), a1] σ (fun r σ' => r = R0 ∧ σ' = S)) (hdc : Nat.blt dc d = true) (h8 : Nat.ble (rest.map fun v => v.category).sum 8 = true) (kk : V K E Mi (pc + 3) L (.int (i32 R0) :: rest) S) : V K E Mi pc L (a1 :: .ref (kA K 0) :: rest) σ :=
  cl_L_44 hE ho hd hc hdc h8 (fun _ _ h => by rw [h.1, h.2]; exact kk)
theorem nm_X5_roughest : NmOk mX5_roughest 1 := ⟨⟨by decide +kernel, by decide +kernel, by decide +kernel⟩, by decide⟩
theorem cl_L_48 {K : Ctx} {E : ME} {Mi : MI} {d dc pc : Nat} {L : List (Option Value)} {rest : List Value} {σ : Sto} {a1 : Value} {post : Int → Sto → Prop} (hE : Ok K E Mi d) (ho : Mi.1.cls = RL) (hd : decode Mi.2.1 pc = .ok (.invokevirtual 48, 3)) (hc : CtI K mX5_roughest dc [.ref (kA K 19), a1] σ post) (hdc : Nat.blt dc d = true) (h8 : Nat.ble (rest.map fun v => v.category).sum 8 = true) (kk : ∀ (r : Int) (σ' : Sto), post r σ' → V K E Mi (pc + 3) L (.int (i32 r) :: rest) σ') : V K E Mi pc L (a1 :: .ref (kA K 19) :: rest) σ :=
  V_callI hE (run_V (k := 19) (n := 1) (As := [a1]) hE rfl rfl (by rw [ho]; exact tw_ml_L_48) tw_ins_X5_roughest tw_sel_X5_roughest tw_ini_X5 tw_cod_X5_roughest nm_X5_roughest hdc rfl h8 hc hd) kk
theorem cf_L_48 {K : Ctx} {E : ME} {Mi : MI} {d dc pc : Nat} {L : List (Option Value)} {rest : List Value} {σ : Sto} {a1 : Value} {R0 : Int} {S : Sto} (hE : Ok K E Mi d) (ho : Mi.1.cls = RL) (hd : decode Mi.2.1 pc = .ok (.invokevirtual 48, 3)) (hc : CtI K mX5_roughest dc [.ref (kA K 19), a1] σ (fun r σ' => r = R0 ∧ σ' = S)) (hdc : Nat.blt dc d = true) (h8 : Nat.ble (rest.map fun v => v.category).sum 8 = true) (kk : V K E Mi (pc + 3) L (.int (i32 R0) :: rest) S) : V K E Mi pc L (a1 :: .ref (kA K 19) :: rest) σ :=
  cl_L_48 hE ho hd hc hdc h8 (fun _ _ h => by rw [h.1, h.2]; exact kk)
theorem nm_X4_rough : NmOk mX4_rough 2 := ⟨⟨by decide +kernel, by decide +kernel, by decide +kernel⟩, by decide⟩
theorem cl_L_49 {K : Ctx} {E : ME} {Mi : MI} {d dc pc : Nat} {L : List (Option Value)} {rest : List Value} {σ : Sto} {a1 a2 : Value} {post : Int → Sto → Prop} (hE : Ok K E Mi d) (ho : Mi.1.cls = RL) (hd : decode Mi.2.1 pc = .ok (.invokevirtual 49, 3)) (hc : CtI K mX4_rough dc [.ref (kA K 0), a1, a2] σ post) (hdc : Nat.blt dc d = true) (h8 : Nat.ble (rest.map fun v => v.category).sum 8 = true) (kk : ∀ (r : Int) (σ' : Sto), post r σ' → V K E Mi (pc + 3) L (.int (i32 r) :: rest) σ') : V K E Mi pc L (a2 :: a1 :: .ref (kA K 0) :: rest) σ :=
  V_callI hE (run_V (k := 0) (n := 2) (As := [a1, a2]) hE rfl rfl (by rw [ho]; exact tw_ml_L_49) tw_ins_X4_rough tw_sel_X4_rough tw_ini_X4 tw_cod_X4_rough nm_X4_rough hdc rfl h8 hc hd) kk
theorem cf_L_49 {K : Ctx} {E : ME} {Mi : MI} {d dc pc : Nat} {L : List (Option Value)} {rest : List Value} {σ : Sto} {a1 a2 : Value} {R0 : Int} {S : Sto} (hE : Ok K E Mi d) (ho : Mi.1.cls = RL) (hd : decode Mi.2.1 pc = .ok (.invokevirtual 49, 3)) (hc : CtI K mX4_rough dc [.ref (kA K 0), a1, a2] σ (fun r σ' => r = R0 ∧ σ' = S)) (hdc : Nat.blt dc d = true) (h8 : Nat.ble (rest.map fun v => v.category).sum 8 = true) (kk : V K E Mi (pc + 3) L (.int (i32 R0) :: rest) S) : V K E Mi pc L (a2 :: a1 :: .ref (kA K 0) :: rest) σ :=
  cl_L_49 hE ho hd hc hdc h8 (fun _ _ h => by rw [h.1, h.2]; exact kk)
theorem nm_X5_rough : NmOk mX5_rough 2 := ⟨⟨by decide +kernel, by decide +kernel, by decide +kernel⟩, by decide⟩
theorem cl_L_52 {K : Ctx} {E : ME} {Mi : MI} {d dc pc : Nat} {L : List (Option Value)} {rest : List Value} {σ : Sto} {a1 a2 : Value} {post : Int → Sto → Prop} (hE : Ok K E Mi d) (ho : Mi.1.cls = RL) (hd : decode Mi.2.1 pc = .ok (.invokevirtual 52, 3)) (hc : CtI K mX5_rough dc [.ref (kA K 19), a1, a2] σ post) (hdc : Nat.blt dc d = true) (h8 : Nat.ble (rest.map fun v => v.category).sum 8 = true) (kk : ∀ (r : Int) (σ' : Sto), post r σ' → V K E Mi (pc + 3) L (.int (i32 r) :: rest) σ') : V K E Mi pc L (a2 :: a1 :: .ref (kA K 19) :: rest) σ :=
  V_callI hE (run_V (k := 19) (n := 2) (As := [a1, a2]) hE rfl rfl (by rw [ho]; exact tw_ml_L_52) tw_ins_X5_rough tw_sel_X5_rough tw_ini_X5 tw_cod_X5_rough nm_X5_rough hdc rfl h8 hc hd) kk
theorem cf_L_52 {K : Ctx} {E : ME} {Mi : MI} {d dc pc : Nat} {L : List (Option Value)} {rest : List Value} {σ : Sto} {a1 a2 : Value} {R0 : Int} {S : Sto} (hE : Ok K E Mi d) (ho : Mi.1.cls = RL) (hd : decode Mi.2.1 pc = .ok (.invokevirtual 52, 3)) (hc : CtI K mX5_rough dc [.ref (kA K 19), a1, a2] σ (fun r σ' => r = R0 ∧ σ' = S)) (hdc : Nat.blt dc d = true) (h8 : Nat.ble (rest.map fun v => v.category).sum 8 = true) (kk : V K E Mi (pc + 3) L (.int (i32 R0) :: rest) S) : V K E Mi pc L (a2 :: a1 :: .ref (kA K 19) :: rest) σ :=
  cl_L_52 hE ho hd hc hdc h8 (fun _ _ h => by rw [h.1, h.2]; exact kk)
theorem nm_X4_least : NmOk mX4_least 3 := ⟨⟨by decide +kernel, by decide +kernel, by decide +kernel⟩, by decide⟩
theorem cl_L_53 {K : Ctx} {E : ME} {Mi : MI} {d dc pc : Nat} {L : List (Option Value)} {rest : List Value} {σ : Sto} {a1 a2 a3 : Value} {post : Int → Sto → Prop} (hE : Ok K E Mi d) (ho : Mi.1.cls = RL) (hd : decode Mi.2.1 pc = .ok (.invokevirtual 53, 3)) (hc : CtI K mX4_least dc [.ref (kA K 0), a1, a2, a3] σ post) (hdc : Nat.blt dc d = true) (h8 : Nat.ble (rest.map fun v => v.category).sum 8 = true) (kk : ∀ (r : Int) (σ' : Sto), post r σ' → V K E Mi (pc + 3) L (.int (i32 r) :: rest) σ') : V K E Mi pc L (a3 :: a2 :: a1 :: .ref (kA K 0) :: rest) σ :=
  V_callI hE (run_V (k := 0) (n := 3) (As := [a1, a2, a3]) hE rfl rfl (by rw [ho]; exact tw_ml_L_53) tw_ins_X4_least tw_sel_X4_least tw_ini_X4 tw_cod_X4_least nm_X4_least hdc rfl h8 hc hd) kk
theorem cf_L_53 {K : Ctx} {E : ME} {Mi : MI} {d dc pc : Nat} {L : List (Option Value)} {rest : List Value} {σ : Sto} {a1 a2 a3 : Value} {R0 : Int} {S : Sto} (hE : Ok K E Mi d) (ho : Mi.1.cls = RL) (hd : decode Mi.2.1 pc = .ok (.invokevirtual 53, 3)) (hc : CtI K mX4_least dc [.ref (kA K 0), a1, a2, a3] σ (fun r σ' => r = R0 ∧ σ' = S)) (hdc : Nat.blt dc d = true) (h8 : Nat.ble (rest.map fun v => v.category).sum 8 = true) (kk : V K E Mi (pc + 3) L (.int (i32 R0) :: rest) S) : V K E Mi pc L (a3 :: a2 :: a1 :: .ref (kA K 0) :: rest) σ :=
  cl_L_53 hE ho hd hc hdc h8 (fun _ _ h => by rw [h.1, h.2]; exact kk)
theorem nm_X5_least : NmOk mX5_least 3 := ⟨⟨by decide +kernel, by decide +kernel, by decide +kernel⟩, by decide⟩
theorem cl_L_56 {K : Ctx} {E : ME} {Mi : MI} {d dc pc : Nat} {L : List (Option Value)} {rest : List Value} {σ : Sto} {a1 a2 a3 : Value} {post : Int → Sto → Prop} (hE : Ok K E Mi d) (ho : Mi.1.cls = RL) (hd : decode Mi.2.1 pc = .ok (.invokevirtual 56, 3)) (hc : CtI K mX5_least dc [.ref (kA K 19), a1, a2, a3] σ post) (hdc : Nat.blt dc d = true) (h8 : Nat.ble (rest.map fun v => v.category).sum 8 = true) (kk : ∀ (r : Int) (σ' : Sto), post r σ' → V K E Mi (pc + 3) L (.int (i32 r) :: rest) σ') : V K E Mi pc L (a3 :: a2 :: a1 :: .ref (kA K 19) :: rest) σ :=
  V_callI hE (run_V (k := 19) (n := 3) (As := [a1, a2, a3]) hE rfl rfl (by rw [ho]; exact tw_ml_L_56) tw_ins_X5_least tw_sel_X5_least tw_ini_X5 tw_cod_X5_least nm_X5_least hdc rfl h8 hc hd) kk
theorem cf_L_56 {K : Ctx} {E : ME} {Mi : MI} {d dc pc : Nat} {L : List (Option Value)} {rest : List Value} {σ : Sto} {a1 a2 a3 : Value} {R0 : Int} {S : Sto} (hE : Ok K E Mi d) (ho : Mi.1.cls = RL) (hd : decode Mi.2.1 pc = .ok (.invokevirtual 56, 3)) (hc : CtI K mX5_least dc [.ref (kA K 19), a1, a2, a3] σ (fun r σ' => r = R0 ∧ σ' = S)) (hdc : Nat.blt dc d = true) (h8 : Nat.ble (rest.map fun v => v.category).sum 8 = true) (kk : V K E Mi (pc + 3) L (.int (i32 R0) :: rest) S) : V K E Mi pc L (a3 :: a2 :: a1 :: .ref (kA K 19) :: rest) σ :=
  cl_L_56 hE ho hd hc hdc h8 (fun _ _ h => by rw [h.1, h.2]; exact kk)
theorem nm_X4_fair : NmOk mX4_fair 2 := ⟨⟨by decide +kernel, by decide +kernel, by decide +kernel⟩, by decide⟩
theorem cl_L_57 {K : Ctx} {E : ME} {Mi : MI} {d dc pc : Nat} {L : List (Option Value)} {rest : List Value} {σ : Sto} {a1 a2 : Value} {post : Int → Sto → Prop} (hE : Ok K E Mi d) (ho : Mi.1.cls = RL) (hd : decode Mi.2.1 pc = .ok (.invokevirtual 57, 3)) (hc : CtI K mX4_fair dc [.ref (kA K 0), a1, a2] σ post) (hdc : Nat.blt dc d = true) (h8 : Nat.ble (rest.map fun v => v.category).sum 8 = true) (kk : ∀ (r : Int) (σ' : Sto), post r σ' → V K E Mi (pc + 3) L (.int (i32 r) :: rest) σ') : V K E Mi pc L (a2 :: a1 :: .ref (kA K 0) :: rest) σ :=
  V_callI hE (run_V (k := 0) (n := 2) (As := [a1, a2]) hE rfl rfl (by rw [ho]; exact tw_ml_L_57) tw_ins_X4_fair tw_sel_X4_fair tw_ini_X4 tw_cod_X4_fair nm_X4_fair hdc rfl h8 hc hd) kk
theorem cf_L_57 {K : Ctx} {E : ME} {Mi : MI} {d dc pc : Nat} {L : List (Option Value)} {rest : List Value} {σ : Sto} {a1 a2 : Value} {R0 : Int} {S : Sto} (hE : Ok K E Mi d) (ho : Mi.1.cls = RL) (hd : decode Mi.2.1 pc = .ok (.invokevirtual 57, 3)) (hc : CtI K mX4_fair dc [.ref (kA K 0), a1, a2] σ (fun r σ' => r = R0 ∧ σ' = S)) (hdc : Nat.blt dc d = true) (h8 : Nat.ble (rest.map fun v => v.category).sum 8 = true) (kk : V K E Mi (pc + 3) L (.int (i32 R0) :: rest) S) : V K E Mi pc L (a2 :: a1 :: .ref (kA K 0) :: rest) σ :=
  cl_L_57 hE ho hd hc hdc h8 (fun _ _ h => by rw [h.1, h.2]; exact kk)
theorem nm_X5_fair : NmOk mX5_fair 2 := ⟨⟨by decide +kernel, by decide +kernel, by decide +kernel⟩, by decide⟩
theorem cl_L_60 {K : Ctx} {E : ME} {Mi : MI} {d dc pc : Nat} {L : List (Option Value)} {rest : List Value} {σ : Sto} {a1 a2 : Value} {post : Int → Sto → Prop} (hE : Ok K E Mi d) (ho : Mi.1.cls = RL) (hd : decode Mi.2.1 pc = .ok (.invokevirtual 60, 3)) (hc : CtI K mX5_fair dc [.ref (kA K 19), a1, a2] σ post) (hdc : Nat.blt dc d = true) (h8 : Nat.ble (rest.map fun v => v.category).sum 8 = true) (kk : ∀ (r : Int) (σ' : Sto), post r σ' → V K E Mi (pc + 3) L (.int (i32 r) :: rest) σ') : V K E Mi pc L (a2 :: a1 :: .ref (kA K 19) :: rest) σ :=
  V_callI hE (run_V (k := 19) (n := 2) (As := [a1, a2]) hE rfl rfl (by rw [ho]; exact tw_ml_L_60) tw_ins_X5_fair tw_sel_X5_fair tw_ini_X5 tw_cod_X5_fair nm_X5_fair hdc rfl h8 hc hd) kk
theorem cf_L_60 {K : Ctx} {E : ME} {Mi : MI} {d dc pc : Nat} {L : List (Option Value)} {rest : List Value} {σ : Sto} {a1 a2 : Value} {R0 : Int} {S : Sto} (hE : Ok K E Mi d) (ho : Mi.1.cls = RL) (hd : decode Mi.2.1 pc = .ok (.invokevirtual 60, 3)) (hc : CtI K mX5_fair dc [.ref (kA K 19), a1, a2] σ (fun r σ' => r = R0 ∧ σ' = S)) (hdc : Nat.blt dc d = true) (h8 : Nat.ble (rest.map fun v => v.category).sum 8 = true) (kk : V K E Mi (pc + 3) L (.int (i32 R0) :: rest) S) : V K E Mi pc L (a2 :: a1 :: .ref (kA K 19) :: rest) σ :=
  cl_L_60 hE ho hd hc hdc h8 (fun _ _ h => by rw [h.1, h.2]; exact kk)
theorem nm_X4_rounds : NmOk mX4_rounds 1 := ⟨⟨by decide +kernel, by decide +kernel, by decide +kernel⟩, by decide⟩
theorem cl_L_61 {K : Ctx} {E : ME} {Mi : MI} {d dc pc : Nat} {L : List (Option Value)} {rest : List Value} {σ : Sto} {a1 : Value} {post : Int → Sto → Prop} (hE : Ok K E Mi d) (ho : Mi.1.cls = RL) (hd : decode Mi.2.1 pc = .ok (.invokevirtual 61, 3)) (hc : CtI K mX4_rounds dc [.ref (kA K 0), a1] σ post) (hdc : Nat.blt dc d = true) (h8 : Nat.ble (rest.map fun v => v.category).sum 8 = true) (kk : ∀ (r : Int) (σ' : Sto), post r σ' → V K E Mi (pc + 3) L (.int (i32 r) :: rest) σ') : V K E Mi pc L (a1 :: .ref (kA K 0) :: rest) σ :=
  V_callI hE (run_V (k := 0) (n := 1) (As := [a1]) hE rfl rfl (by rw [ho]; exact tw_ml_L_61) tw_ins_X4_rounds tw_sel_X4_rounds tw_ini_X4 tw_cod_X4_rounds nm_X4_rounds hdc rfl h8 hc hd) kk
theorem cf_L_61 {K : Ctx} {E : ME} {Mi : MI} {d dc pc : Nat} {L : List (Option Value)} {rest : List Value} {σ : Sto} {a1 : Value} {R0 : Int} {S : Sto} (hE : Ok K E Mi d) (ho : Mi.1.cls = RL) (hd : decode Mi.2.1 pc = .ok (.invokevirtual 61, 3)) (hc : CtI K mX4_rounds dc [.ref (kA K 0), a1] σ (fun r σ' => r = R0 ∧ σ' = S)) (hdc : Nat.blt dc d = true) (h8 : Nat.ble (rest.map fun v => v.category).sum 8 = true) (kk : V K E Mi (pc + 3) L (.int (i32 R0) :: rest) S) : V K E Mi pc L (a1 :: .ref (kA K 0) :: rest) σ :=
  cl_L_61 hE ho hd hc hdc h8 (fun _ _ h => by rw [h.1, h.2]; exact kk)
theorem nm_X5_rounds : NmOk mX5_rounds 1 := ⟨⟨by decide +kernel, by decide +kernel, by decide +kernel⟩, by decide⟩
theorem cl_L_64 {K : Ctx} {E : ME} {Mi : MI} {d dc pc : Nat} {L : List (Option Value)} {rest : List Value} {σ : Sto} {a1 : Value} {post : Int → Sto → Prop} (hE : Ok K E Mi d) (ho : Mi.1.cls = RL) (hd : decode Mi.2.1 pc = .ok (.invokevirtual 64, 3)) (hc : CtI K mX5_rounds dc [.ref (kA K 19), a1] σ post) (hdc : Nat.blt dc d = true) (h8 : Nat.ble (rest.map fun v => v.category).sum 8 = true) (kk : ∀ (r : Int) (σ' : Sto), post r σ' → V K E Mi (pc + 3) L (.int (i32 r) :: rest) σ') : V K E Mi pc L (a1 :: .ref (kA K 19) :: rest) σ :=
  V_callI hE (run_V (k := 19) (n := 1) (As := [a1]) hE rfl rfl (by rw [ho]; exact tw_ml_L_64) tw_ins_X5_rounds tw_sel_X5_rounds tw_ini_X5 tw_cod_X5_rounds nm_X5_rounds hdc rfl h8 hc hd) kk
theorem cf_L_64 {K : Ctx} {E : ME} {Mi : MI} {d dc pc : Nat} {L : List (Option Value)} {rest : List Value} {σ : Sto} {a1 : Value} {R0 : Int} {S : Sto} (hE : Ok K E Mi d) (ho : Mi.1.cls = RL) (hd : decode Mi.2.1 pc = .ok (.invokevirtual 64, 3)) (hc : CtI K mX5_rounds dc [.ref (kA K 19), a1] σ (fun r σ' => r = R0 ∧ σ' = S)) (hdc : Nat.blt dc d = true) (h8 : Nat.ble (rest.map fun v => v.category).sum 8 = true) (kk : V K E Mi (pc + 3) L (.int (i32 R0) :: rest) S) : V K E Mi pc L (a1 :: .ref (kA K 19) :: rest) σ :=
  cl_L_64 hE ho hd hc hdc h8 (fun _ _ h => by rw [h.1, h.2]; exact kk)
theorem nm_X4_back : NmOk mX4_back 0 := ⟨⟨by decide +kernel, by decide +kernel, by decide +kernel⟩, by decide⟩
theorem cl_L_65 {K : Ctx} {E : ME} {Mi : MI} {d dc pc : Nat} {L : List (Option Value)} {rest : List Value} {σ : Sto} {post : Int → Sto → Prop} (hE : Ok K E Mi d) (ho : Mi.1.cls = RL) (hd : decode Mi.2.1 pc = .ok (.invokevirtual 65, 3)) (hc : CtI K mX4_back dc [.ref (kA K 0)] σ post) (hdc : Nat.blt dc d = true) (h8 : Nat.ble (rest.map fun v => v.category).sum 8 = true) (kk : ∀ (r : Int) (σ' : Sto), post r σ' → V K E Mi (pc + 3) L (.int (i32 r) :: rest) σ') : V K E Mi pc L (.ref (kA K 0) :: rest) σ :=
  V_callI hE (run_V (k := 0) (n := 0) (As := []) hE rfl rfl (by rw [ho]; exact tw_ml_L_65) tw_ins_X4_back tw_sel_X4_back tw_ini_X4 tw_cod_X4_back nm_X4_back hdc rfl h8 hc hd) kk
theorem cf_L_65 {K : Ctx} {E : ME} {Mi : MI} {d dc pc : Nat} {L : List (Option Value)} {rest : List Value} {σ : Sto} {R0 : Int} {S : Sto} (hE : Ok K E Mi d) (ho : Mi.1.cls = RL) (hd : decode Mi.2.1 pc = .ok (.invokevirtual 65, 3)) (hc : CtI K mX4_back dc [.ref (kA K 0)] σ (fun r σ' => r = R0 ∧ σ' = S)) (hdc : Nat.blt dc d = true) (h8 : Nat.ble (rest.map fun v => v.category).sum 8 = true) (kk : V K E Mi (pc + 3) L (.int (i32 R0) :: rest) S) : V K E Mi pc L (.ref (kA K 0) :: rest) σ :=
  cl_L_65 hE ho hd hc hdc h8 (fun _ _ h => by rw [h.1, h.2]; exact kk)
theorem nm_X5_back : NmOk mX5_back 0 := ⟨⟨by decide +kernel, by decide +kernel, by decide +kernel⟩, by decide⟩
theorem cl_L_69 {K : Ctx} {E : ME} {Mi : MI} {d dc pc : Nat} {L : List (Option Value)} {rest : List Value} {σ : Sto} {post : Int → Sto → Prop} (hE : Ok K E Mi d) (ho : Mi.1.cls = RL) (hd : decode Mi.2.1 pc = .ok (.invokevirtual 69, 3)) (hc : CtI K mX5_back dc [.ref (kA K 19)] σ post) (hdc : Nat.blt dc d = true) (h8 : Nat.ble (rest.map fun v => v.category).sum 8 = true) (kk : ∀ (r : Int) (σ' : Sto), post r σ' → V K E Mi (pc + 3) L (.int (i32 r) :: rest) σ') : V K E Mi pc L (.ref (kA K 19) :: rest) σ :=
  V_callI hE (run_V (k := 19) (n := 0) (As := []) hE rfl rfl (by rw [ho]; exact tw_ml_L_69) tw_ins_X5_back tw_sel_X5_back tw_ini_X5 tw_cod_X5_back nm_X5_back hdc rfl h8 hc hd) kk
theorem cf_L_69 {K : Ctx} {E : ME} {Mi : MI} {d dc pc : Nat} {L : List (Option Value)} {rest : List Value} {σ : Sto} {R0 : Int} {S : Sto} (hE : Ok K E Mi d) (ho : Mi.1.cls = RL) (hd : decode Mi.2.1 pc = .ok (.invokevirtual 69, 3)) (hc : CtI K mX5_back dc [.ref (kA K 19)] σ (fun r σ' => r = R0 ∧ σ' = S)) (hdc : Nat.blt dc d = true) (h8 : Nat.ble (rest.map fun v => v.category).sum 8 = true) (kk : V K E Mi (pc + 3) L (.int (i32 R0) :: rest) S) : V K E Mi pc L (.ref (kA K 19) :: rest) σ :=
  cl_L_69 hE ho hd hc hdc h8 (fun _ _ h => by rw [h.1, h.2]; exact kk)
theorem nm_X4_area : NmOk mX4_area 3 := ⟨⟨by decide +kernel, by decide +kernel, by decide +kernel⟩, by decide⟩
theorem cl_L_70 {K : Ctx} {E : ME} {Mi : MI} {d dc pc : Nat} {L : List (Option Value)} {rest : List Value} {σ : Sto} {a1 a2 a3 : Value} {post : Int → Sto → Prop} (hE : Ok K E Mi d) (ho : Mi.1.cls = RL) (hd : decode Mi.2.1 pc = .ok (.invokevirtual 70, 3)) (hc : CtL K mX4_area dc [.ref (kA K 0), a1, a2, a3] σ post) (hdc : Nat.blt dc d = true) (h8 : Nat.ble (rest.map fun v => v.category).sum 8 = true) (kk : ∀ (r : Int) (σ' : Sto), post r σ' → V K E Mi (pc + 3) L (.long (i64 r) :: rest) σ') : V K E Mi pc L (a3 :: a2 :: a1 :: .ref (kA K 0) :: rest) σ :=
  V_callL hE (run_V (k := 0) (n := 3) (As := [a1, a2, a3]) hE rfl rfl (by rw [ho]; exact tw_ml_L_70) tw_ins_X4_area tw_sel_X4_area tw_ini_X4 tw_cod_X4_area nm_X4_area hdc rfl h8 hc hd) kk
theorem cf_L_70 {K : Ctx} {E : ME} {Mi : MI} {d dc pc : Nat} {L : List (Option Value)} {rest : List Value} {σ : Sto} {a1 a2 a3 : Value} {R0 : Int} {S : Sto} (hE : Ok K E Mi d) (ho : Mi.1.cls = RL) (hd : decode Mi.2.1 pc = .ok (.invokevirtual 70, 3)) (hc : CtL K mX4_area dc [.ref (kA K 0), a1, a2, a3] σ (fun r σ' => r = R0 ∧ σ' = S)) (hdc : Nat.blt dc d = true) (h8 : Nat.ble (rest.map fun v => v.category).sum 8 = true) (kk : V K E Mi (pc + 3) L (.long (i64 R0) :: rest) S) : V K E Mi pc L (a3 :: a2 :: a1 :: .ref (kA K 0) :: rest) σ :=
  cl_L_70 hE ho hd hc hdc h8 (fun _ _ h => by rw [h.1, h.2]; exact kk)
theorem nm_X5_area : NmOk mX5_area 3 := ⟨⟨by decide +kernel, by decide +kernel, by decide +kernel⟩, by decide⟩
theorem cl_L_74 {K : Ctx} {E : ME} {Mi : MI} {d dc pc : Nat} {L : List (Option Value)} {rest : List Value} {σ : Sto} {a1 a2 a3 : Value} {post : Int → Sto → Prop} (hE : Ok K E Mi d) (ho : Mi.1.cls = RL) (hd : decode Mi.2.1 pc = .ok (.invokevirtual 74, 3)) (hc : CtL K mX5_area dc [.ref (kA K 19), a1, a2, a3] σ post) (hdc : Nat.blt dc d = true) (h8 : Nat.ble (rest.map fun v => v.category).sum 8 = true) (kk : ∀ (r : Int) (σ' : Sto), post r σ' → V K E Mi (pc + 3) L (.long (i64 r) :: rest) σ') : V K E Mi pc L (a3 :: a2 :: a1 :: .ref (kA K 19) :: rest) σ :=
  V_callL hE (run_V (k := 19) (n := 3) (As := [a1, a2, a3]) hE rfl rfl (by rw [ho]; exact tw_ml_L_74) tw_ins_X5_area tw_sel_X5_area tw_ini_X5 tw_cod_X5_area nm_X5_area hdc rfl h8 hc hd) kk
theorem cf_L_74 {K : Ctx} {E : ME} {Mi : MI} {d dc pc : Nat} {L : List (Option Value)} {rest : List Value} {σ : Sto} {a1 a2 a3 : Value} {R0 : Int} {S : Sto} (hE : Ok K E Mi d) (ho : Mi.1.cls = RL) (hd : decode Mi.2.1 pc = .ok (.invokevirtual 74, 3)) (hc : CtL K mX5_area dc [.ref (kA K 19), a1, a2, a3] σ (fun r σ' => r = R0 ∧ σ' = S)) (hdc : Nat.blt dc d = true) (h8 : Nat.ble (rest.map fun v => v.category).sum 8 = true) (kk : V K E Mi (pc + 3) L (.long (i64 R0) :: rest) S) : V K E Mi pc L (a3 :: a2 :: a1 :: .ref (kA K 19) :: rest) σ :=
  cl_L_74 hE ho hd hc hdc h8 (fun _ _ h => by rw [h.1, h.2]; exact kk)
theorem nm_X4_centre : NmOk mX4_centre 3 := ⟨⟨by decide +kernel, by decide +kernel, by decide +kernel⟩, by decide⟩
theorem cl_L_75 {K : Ctx} {E : ME} {Mi : MI} {d dc pc : Nat} {L : List (Option Value)} {rest : List Value} {σ : Sto} {a1 a2 a3 : Value} {post : Int → Sto → Prop} (hE : Ok K E Mi d) (ho : Mi.1.cls = RL) (hd : decode Mi.2.1 pc = .ok (.invokevirtual 75, 3)) (hc : CtL K mX4_centre dc [.ref (kA K 0), a1, a2, a3] σ post) (hdc : Nat.blt dc d = true) (h8 : Nat.ble (rest.map fun v => v.category).sum 8 = true) (kk : ∀ (r : Int) (σ' : Sto), post r σ' → V K E Mi (pc + 3) L (.long (i64 r) :: rest) σ') : V K E Mi pc L (a3 :: a2 :: a1 :: .ref (kA K 0) :: rest) σ :=
  V_callL hE (run_V (k := 0) (n := 3) (As := [a1, a2, a3]) hE rfl rfl (by rw [ho]; exact tw_ml_L_75) tw_ins_X4_centre tw_sel_X4_centre tw_ini_X4 tw_cod_X4_centre nm_X4_centre hdc rfl h8 hc hd) kk
theorem cf_L_75 {K : Ctx} {E : ME} {Mi : MI} {d dc pc : Nat} {L : List (Option Value)} {rest : List Value} {σ : Sto} {a1 a2 a3 : Value} {R0 : Int} {S : Sto} (hE : Ok K E Mi d) (ho : Mi.1.cls = RL) (hd : decode Mi.2.1 pc = .ok (.invokevirtual 75, 3)) (hc : CtL K mX4_centre dc [.ref (kA K 0), a1, a2, a3] σ (fun r σ' => r = R0 ∧ σ' = S)) (hdc : Nat.blt dc d = true) (h8 : Nat.ble (rest.map fun v => v.category).sum 8 = true) (kk : V K E Mi (pc + 3) L (.long (i64 R0) :: rest) S) : V K E Mi pc L (a3 :: a2 :: a1 :: .ref (kA K 0) :: rest) σ :=
  cl_L_75 hE ho hd hc hdc h8 (fun _ _ h => by rw [h.1, h.2]; exact kk)
theorem nm_X5_centre : NmOk mX5_centre 3 := ⟨⟨by decide +kernel, by decide +kernel, by decide +kernel⟩, by decide⟩
theorem cl_L_78 {K : Ctx} {E : ME} {Mi : MI} {d dc pc : Nat} {L : List (Option Value)} {rest : List Value} {σ : Sto} {a1 a2 a3 : Value} {post : Int → Sto → Prop} (hE : Ok K E Mi d) (ho : Mi.1.cls = RL) (hd : decode Mi.2.1 pc = .ok (.invokevirtual 78, 3)) (hc : CtL K mX5_centre dc [.ref (kA K 19), a1, a2, a3] σ post) (hdc : Nat.blt dc d = true) (h8 : Nat.ble (rest.map fun v => v.category).sum 8 = true) (kk : ∀ (r : Int) (σ' : Sto), post r σ' → V K E Mi (pc + 3) L (.long (i64 r) :: rest) σ') : V K E Mi pc L (a3 :: a2 :: a1 :: .ref (kA K 19) :: rest) σ :=
  V_callL hE (run_V (k := 19) (n := 3) (As := [a1, a2, a3]) hE rfl rfl (by rw [ho]; exact tw_ml_L_78) tw_ins_X5_centre tw_sel_X5_centre tw_ini_X5 tw_cod_X5_centre nm_X5_centre hdc rfl h8 hc hd) kk
theorem cf_L_78 {K : Ctx} {E : ME} {Mi : MI} {d dc pc : Nat} {L : List (Option Value)} {rest : List Value} {σ : Sto} {a1 a2 a3 : Value} {R0 : Int} {S : Sto} (hE : Ok K E Mi d) (ho : Mi.1.cls = RL) (hd : decode Mi.2.1 pc = .ok (.invokevirtual 78, 3)) (hc : CtL K mX5_centre dc [.ref (kA K 19), a1, a2, a3] σ (fun r σ' => r = R0 ∧ σ' = S)) (hdc : Nat.blt dc d = true) (h8 : Nat.ble (rest.map fun v => v.category).sum 8 = true) (kk : V K E Mi (pc + 3) L (.long (i64 R0) :: rest) S) : V K E Mi pc L (a3 :: a2 :: a1 :: .ref (kA K 19) :: rest) σ :=
  cl_L_78 hE ho hd hc hdc h8 (fun _ _ h => by rw [h.1, h.2]; exact kk)
theorem nm_X4_volume : NmOk mX4_volume 2 := ⟨⟨by decide +kernel, by decide +kernel, by decide +kernel⟩, by decide⟩
theorem cl_L_79 {K : Ctx} {E : ME} {Mi : MI} {d dc pc : Nat} {L : List (Option Value)} {rest : List Value} {σ : Sto} {a1 a2 : Value} {post : Int → Sto → Prop} (hE : Ok K E Mi d) (ho : Mi.1.cls = RL) (hd : decode Mi.2.1 pc = .ok (.invokevirtual 79, 3)) (hc : CtL K mX4_volume dc [.ref (kA K 0), a1, a2] σ post) (hdc : Nat.blt dc d = true) (h8 : Nat.ble (rest.map fun v => v.category).sum 8 = true) (kk : ∀ (r : Int) (σ' : Sto), post r σ' → V K E Mi (pc + 3) L (.long (i64 r) :: rest) σ') : V K E Mi pc L (a2 :: a1 :: .ref (kA K 0) :: rest) σ :=
  V_callL hE (run_V (k := 0) (n := 2) (As := [a1, a2]) hE rfl rfl (by rw [ho]; exact tw_ml_L_79) tw_ins_X4_volume tw_sel_X4_volume tw_ini_X4 tw_cod_X4_volume nm_X4_volume hdc rfl h8 hc hd) kk
theorem cf_L_79 {K : Ctx} {E : ME} {Mi : MI} {d dc pc : Nat} {L : List (Option Value)} {rest : List Value} {σ : Sto} {a1 a2 : Value} {R0 : Int} {S : Sto} (hE : Ok K E Mi d) (ho : Mi.1.cls = RL) (hd : decode Mi.2.1 pc = .ok (.invokevirtual 79, 3)) (hc : CtL K mX4_volume dc [.ref (kA K 0), a1, a2] σ (fun r σ' => r = R0 ∧ σ' = S)) (hdc : Nat.blt dc d = true) (h8 : Nat.ble (rest.map fun v => v.category).sum 8 = true) (kk : V K E Mi (pc + 3) L (.long (i64 R0) :: rest) S) : V K E Mi pc L (a2 :: a1 :: .ref (kA K 0) :: rest) σ :=
  cl_L_79 hE ho hd hc hdc h8 (fun _ _ h => by rw [h.1, h.2]; exact kk)
theorem nm_X5_volume : NmOk mX5_volume 2 := ⟨⟨by decide +kernel, by decide +kernel, by decide +kernel⟩, by decide⟩
theorem cl_L_83 {K : Ctx} {E : ME} {Mi : MI} {d dc pc : Nat} {L : List (Option Value)} {rest : List Value} {σ : Sto} {a1 a2 : Value} {post : Int → Sto → Prop} (hE : Ok K E Mi d) (ho : Mi.1.cls = RL) (hd : decode Mi.2.1 pc = .ok (.invokevirtual 83, 3)) (hc : CtL K mX5_volume dc [.ref (kA K 19), a1, a2] σ post) (hdc : Nat.blt dc d = true) (h8 : Nat.ble (rest.map fun v => v.category).sum 8 = true) (kk : ∀ (r : Int) (σ' : Sto), post r σ' → V K E Mi (pc + 3) L (.long (i64 r) :: rest) σ') : V K E Mi pc L (a2 :: a1 :: .ref (kA K 19) :: rest) σ :=
  V_callL hE (run_V (k := 19) (n := 2) (As := [a1, a2]) hE rfl rfl (by rw [ho]; exact tw_ml_L_83) tw_ins_X5_volume tw_sel_X5_volume tw_ini_X5 tw_cod_X5_volume nm_X5_volume hdc rfl h8 hc hd) kk
theorem cf_L_83 {K : Ctx} {E : ME} {Mi : MI} {d dc pc : Nat} {L : List (Option Value)} {rest : List Value} {σ : Sto} {a1 a2 : Value} {R0 : Int} {S : Sto} (hE : Ok K E Mi d) (ho : Mi.1.cls = RL) (hd : decode Mi.2.1 pc = .ok (.invokevirtual 83, 3)) (hc : CtL K mX5_volume dc [.ref (kA K 19), a1, a2] σ (fun r σ' => r = R0 ∧ σ' = S)) (hdc : Nat.blt dc d = true) (h8 : Nat.ble (rest.map fun v => v.category).sum 8 = true) (kk : V K E Mi (pc + 3) L (.long (i64 R0) :: rest) S) : V K E Mi pc L (a2 :: a1 :: .ref (kA K 19) :: rest) σ :=
  cl_L_83 hE ho hd hc hdc h8 (fun _ _ h => by rw [h.1, h.2]; exact kk)
theorem nm_X4_height : NmOk mX4_height 3 := ⟨⟨by decide +kernel, by decide +kernel, by decide +kernel⟩, by decide⟩
theorem cl_L_84 {K : Ctx} {E : ME} {Mi : MI} {d dc pc : Nat} {L : List (Option Value)} {rest : List Value} {σ : Sto} {a1 a2 a3 : Value} {post : Int → Sto → Prop} (hE : Ok K E Mi d) (ho : Mi.1.cls = RL) (hd : decode Mi.2.1 pc = .ok (.invokevirtual 84, 3)) (hc : CtL K mX4_height dc [.ref (kA K 0), a1, a2, a3] σ post) (hdc : Nat.blt dc d = true) (h8 : Nat.ble (rest.map fun v => v.category).sum 8 = true) (kk : ∀ (r : Int) (σ' : Sto), post r σ' → V K E Mi (pc + 3) L (.long (i64 r) :: rest) σ') : V K E Mi pc L (a3 :: a2 :: a1 :: .ref (kA K 0) :: rest) σ :=
  V_callL hE (run_V (k := 0) (n := 3) (As := [a1, a2, a3]) hE rfl rfl (by rw [ho]; exact tw_ml_L_84) tw_ins_X4_height tw_sel_X4_height tw_ini_X4 tw_cod_X4_height nm_X4_height hdc rfl h8 hc hd) kk
theorem cf_L_84 {K : Ctx} {E : ME} {Mi : MI} {d dc pc : Nat} {L : List (Option Value)} {rest : List Value} {σ : Sto} {a1 a2 a3 : Value} {R0 : Int} {S : Sto} (hE : Ok K E Mi d) (ho : Mi.1.cls = RL) (hd : decode Mi.2.1 pc = .ok (.invokevirtual 84, 3)) (hc : CtL K mX4_height dc [.ref (kA K 0), a1, a2, a3] σ (fun r σ' => r = R0 ∧ σ' = S)) (hdc : Nat.blt dc d = true) (h8 : Nat.ble (rest.map fun v => v.category).sum 8 = true) (kk : V K E Mi (pc + 3) L (.long (i64 R0) :: rest) S) : V K E Mi pc L (a3 :: a2 :: a1 :: .ref (kA K 0) :: rest) σ :=
  cl_L_84 hE ho hd hc hdc h8 (fun _ _ h => by rw [h.1, h.2]; exact kk)
theorem nm_X5_height : NmOk mX5_height 3 := ⟨⟨by decide +kernel, by decide +kernel, by decide +kernel⟩, by decide⟩
theorem cl_L_87 {K : Ctx} {E : ME} {Mi : MI} {d dc pc : Nat} {L : List (Option Value)} {rest : List Value} {σ : Sto} {a1 a2 a3 : Value} {post : Int → Sto → Prop} (hE : Ok K E Mi d) (ho : Mi.1.cls = RL) (hd : decode Mi.2.1 pc = .ok (.invokevirtual 87, 3)) (hc : CtL K mX5_height dc [.ref (kA K 19), a1, a2, a3] σ post) (hdc : Nat.blt dc d = true) (h8 : Nat.ble (rest.map fun v => v.category).sum 8 = true) (kk : ∀ (r : Int) (σ' : Sto), post r σ' → V K E Mi (pc + 3) L (.long (i64 r) :: rest) σ') : V K E Mi pc L (a3 :: a2 :: a1 :: .ref (kA K 19) :: rest) σ :=
  V_callL hE (run_V (k := 19) (n := 3) (As := [a1, a2, a3]) hE rfl rfl (by rw [ho]; exact tw_ml_L_87) tw_ins_X5_height tw_sel_X5_height tw_ini_X5 tw_cod_X5_height nm_X5_height hdc rfl h8 hc hd) kk
theorem cf_L_87 {K : Ctx} {E : ME} {Mi : MI} {d dc pc : Nat} {L : List (Option Value)} {rest : List Value} {σ : Sto} {a1 a2 a3 : Value} {R0 : Int} {S : Sto} (hE : Ok K E Mi d) (ho : Mi.1.cls = RL) (hd : decode Mi.2.1 pc = .ok (.invokevirtual 87, 3)) (hc : CtL K mX5_height dc [.ref (kA K 19), a1, a2, a3] σ (fun r σ' => r = R0 ∧ σ' = S)) (hdc : Nat.blt dc d = true) (h8 : Nat.ble (rest.map fun v => v.category).sum 8 = true) (kk : V K E Mi (pc + 3) L (.long (i64 R0) :: rest) S) : V K E Mi pc L (a3 :: a2 :: a1 :: .ref (kA K 19) :: rest) σ :=
  cl_L_87 hE ho hd hc hdc h8 (fun _ _ h => by rw [h.1, h.2]; exact kk)
theorem nm_X4_breaks : NmOk mX4_breaks 1 := ⟨⟨by decide +kernel, by decide +kernel, by decide +kernel⟩, by decide⟩
theorem cl_L_88 {K : Ctx} {E : ME} {Mi : MI} {d dc pc : Nat} {L : List (Option Value)} {rest : List Value} {σ : Sto} {a1 : Value} {post : Int → Sto → Prop} (hE : Ok K E Mi d) (ho : Mi.1.cls = RL) (hd : decode Mi.2.1 pc = .ok (.invokevirtual 88, 3)) (hc : CtI K mX4_breaks dc [.ref (kA K 0), a1] σ post) (hdc : Nat.blt dc d = true) (h8 : Nat.ble (rest.map fun v => v.category).sum 8 = true) (kk : ∀ (r : Int) (σ' : Sto), post r σ' → V K E Mi (pc + 3) L (.int (i32 r) :: rest) σ') : V K E Mi pc L (a1 :: .ref (kA K 0) :: rest) σ :=
  V_callI hE (run_V (k := 0) (n := 1) (As := [a1]) hE rfl rfl (by rw [ho]; exact tw_ml_L_88) tw_ins_X4_breaks tw_sel_X4_breaks tw_ini_X4 tw_cod_X4_breaks nm_X4_breaks hdc rfl h8 hc hd) kk
theorem cf_L_88 {K : Ctx} {E : ME} {Mi : MI} {d dc pc : Nat} {L : List (Option Value)} {rest : List Value} {σ : Sto} {a1 : Value} {R0 : Int} {S : Sto} (hE : Ok K E Mi d) (ho : Mi.1.cls = RL) (hd : decode Mi.2.1 pc = .ok (.invokevirtual 88, 3)) (hc : CtI K mX4_breaks dc [.ref (kA K 0), a1] σ (fun r σ' => r = R0 ∧ σ' = S)) (hdc : Nat.blt dc d = true) (h8 : Nat.ble (rest.map fun v => v.category).sum 8 = true) (kk : V K E Mi (pc + 3) L (.int (i32 R0) :: rest) S) : V K E Mi pc L (a1 :: .ref (kA K 0) :: rest) σ :=
  cl_L_88 hE ho hd hc hdc h8 (fun _ _ h => by rw [h.1, h.2]; exact kk)
theorem nm_X5_breaks : NmOk mX5_breaks 1 := ⟨⟨by decide +kernel, by decide +kernel, by decide +kernel⟩, by decide⟩
theorem cl_L_91 {K : Ctx} {E : ME} {Mi : MI} {d dc pc : Nat} {L : List (Option Value)} {rest : List Value} {σ : Sto} {a1 : Value} {post : Int → Sto → Prop} (hE : Ok K E Mi d) (ho : Mi.1.cls = RL) (hd : decode Mi.2.1 pc = .ok (.invokevirtual 91, 3)) (hc : CtI K mX5_breaks dc [.ref (kA K 19), a1] σ post) (hdc : Nat.blt dc d = true) (h8 : Nat.ble (rest.map fun v => v.category).sum 8 = true) (kk : ∀ (r : Int) (σ' : Sto), post r σ' → V K E Mi (pc + 3) L (.int (i32 r) :: rest) σ') : V K E Mi pc L (a1 :: .ref (kA K 19) :: rest) σ :=
  V_callI hE (run_V (k := 19) (n := 1) (As := [a1]) hE rfl rfl (by rw [ho]; exact tw_ml_L_91) tw_ins_X5_breaks tw_sel_X5_breaks tw_ini_X5 tw_cod_X5_breaks nm_X5_breaks hdc rfl h8 hc hd) kk
theorem cf_L_91 {K : Ctx} {E : ME} {Mi : MI} {d dc pc : Nat} {L : List (Option Value)} {rest : List Value} {σ : Sto} {a1 : Value} {R0 : Int} {S : Sto} (hE : Ok K E Mi d) (ho : Mi.1.cls = RL) (hd : decode Mi.2.1 pc = .ok (.invokevirtual 91, 3)) (hc : CtI K mX5_breaks dc [.ref (kA K 19), a1] σ (fun r σ' => r = R0 ∧ σ' = S)) (hdc : Nat.blt dc d = true) (h8 : Nat.ble (rest.map fun v => v.category).sum 8 = true) (kk : V K E Mi (pc + 3) L (.int (i32 R0) :: rest) S) : V K E Mi pc L (a1 :: .ref (kA K 19) :: rest) σ :=
  cl_L_91 hE ho hd hc hdc h8 (fun _ _ h => by rw [h.1, h.2]; exact kk)
theorem nm_X4_worst : NmOk mX4_worst 0 := ⟨⟨by decide +kernel, by decide +kernel, by decide +kernel⟩, by decide⟩
theorem cl_L_92 {K : Ctx} {E : ME} {Mi : MI} {d dc pc : Nat} {L : List (Option Value)} {rest : List Value} {σ : Sto} {post : Int → Sto → Prop} (hE : Ok K E Mi d) (ho : Mi.1.cls = RL) (hd : decode Mi.2.1 pc = .ok (.invokevirtual 92, 3)) (hc : CtI K mX4_worst dc [.ref (kA K 0)] σ post) (hdc : Nat.blt dc d = true) (h8 : Nat.ble (rest.map fun v => v.category).sum 8 = true) (kk : ∀ (r : Int) (σ' : Sto), post r σ' → V K E Mi (pc + 3) L (.int (i32 r) :: rest) σ') : V K E Mi pc L (.ref (kA K 0) :: rest) σ :=
  V_callI hE (run_V (k := 0) (n := 0) (As := []) hE rfl rfl (by rw [ho]; exact tw_ml_L_92) tw_ins_X4_worst tw_sel_X4_worst tw_ini_X4 tw_cod_X4_worst nm_X4_worst hdc rfl h8 hc hd) kk
theorem cf_L_92 {K : Ctx} {E : ME} {Mi : MI} {d dc pc : Nat} {L : List (Option Value)} {rest : List Value} {σ : Sto} {R0 : Int} {S : Sto} (hE : Ok K E Mi d) (ho : Mi.1.cls = RL) (hd : decode Mi.2.1 pc = .ok (.invokevirtual 92, 3)) (hc : CtI K mX4_worst dc [.ref (kA K 0)] σ (fun r σ' => r = R0 ∧ σ' = S)) (hdc : Nat.blt dc d = true) (h8 : Nat.ble (rest.map fun v => v.category).sum 8 = true) (kk : V K E Mi (pc + 3) L (.int (i32 R0) :: rest) S) : V K E Mi pc L (.ref (kA K 0) :: rest) σ :=
  cl_L_92 hE ho hd hc hdc h8 (fun _ _ h => by rw [h.1, h.2]; exact kk)
theorem nm_X5_worst : NmOk mX5_worst 0 := ⟨⟨by decide +kernel, by decide +kernel, by decide +kernel⟩, by decide⟩
theorem cl_L_95 {K : Ctx} {E : ME} {Mi : MI} {d dc pc : Nat} {L : List (Option Value)} {rest : List Value} {σ : Sto} {post : Int → Sto → Prop} (hE : Ok K E Mi d) (ho : Mi.1.cls = RL) (hd : decode Mi.2.1 pc = .ok (.invokevirtual 95, 3)) (hc : CtI K mX5_worst dc [.ref (kA K 19)] σ post) (hdc : Nat.blt dc d = true) (h8 : Nat.ble (rest.map fun v => v.category).sum 8 = true) (kk : ∀ (r : Int) (σ' : Sto), post r σ' → V K E Mi (pc + 3) L (.int (i32 r) :: rest) σ') : V K E Mi pc L (.ref (kA K 19) :: rest) σ :=
  V_callI hE (run_V (k := 19) (n := 0) (As := []) hE rfl rfl (by rw [ho]; exact tw_ml_L_95) tw_ins_X5_worst tw_sel_X5_worst tw_ini_X5 tw_cod_X5_worst nm_X5_worst hdc rfl h8 hc hd) kk
theorem cf_L_95 {K : Ctx} {E : ME} {Mi : MI} {d dc pc : Nat} {L : List (Option Value)} {rest : List Value} {σ : Sto} {R0 : Int} {S : Sto} (hE : Ok K E Mi d) (ho : Mi.1.cls = RL) (hd : decode Mi.2.1 pc = .ok (.invokevirtual 95, 3)) (hc : CtI K mX5_worst dc [.ref (kA K 19)] σ (fun r σ' => r = R0 ∧ σ' = S)) (hdc : Nat.blt dc d = true) (h8 : Nat.ble (rest.map fun v => v.category).sum 8 = true) (kk : V K E Mi (pc + 3) L (.int (i32 R0) :: rest) S) : V K E Mi pc L (.ref (kA K 19) :: rest) σ :=
  cl_L_95 hE ho hd hc hdc h8 (fun _ _ h => by rw [h.1, h.2]; exact kk)
theorem nm_X4_many : NmOk mX4_many 1 := ⟨⟨by decide +kernel, by decide +kernel, by decide +kernel⟩, by decide⟩
theorem cl_L_96 {K : Ctx} {E : ME} {Mi : MI} {d dc pc : Nat} {L : List (Option Value)} {rest : List Value} {σ : Sto} {a1 : Value} {post : Int → Sto → Prop} (hE : Ok K E Mi d) (ho : Mi.1.cls = RL) (hd : decode Mi.2.1 pc = .ok (.invokevirtual 96, 3)) (hc : CtI K mX4_many dc [.ref (kA K 0), a1] σ post) (hdc : Nat.blt dc d = true) (h8 : Nat.ble (rest.map fun v => v.category).sum 8 = true) (kk : ∀ (r : Int) (σ' : Sto), post r σ' → V K E Mi (pc + 3) L (.int (i32 r) :: rest) σ') : V K E Mi pc L (a1 :: .ref (kA K 0) :: rest) σ :=
  V_callI hE (run_V (k := 0) (n := 1) (As := [a1]) hE rfl rfl (by rw [ho]; exact tw_ml_L_96) tw_ins_X4_many tw_sel_X4_many tw_ini_X4 tw_cod_X4_many nm_X4_many hdc rfl h8 hc hd) kk
theorem cf_L_96 {K : Ctx} {E : ME} {Mi : MI} {d dc pc : Nat} {L : List (Option Value)} {rest : List Value} {σ : Sto} {a1 : Value} {R0 : Int} {S : Sto} (hE : Ok K E Mi d) (ho : Mi.1.cls = RL) (hd : decode Mi.2.1 pc = .ok (.invokevirtual 96, 3)) (hc : CtI K mX4_many dc [.ref (kA K 0), a1] σ (fun r σ' => r = R0 ∧ σ' = S)) (hdc : Nat.blt dc d = true) (h8 : Nat.ble (rest.map fun v => v.category).sum 8 = true) (kk : V K E Mi (pc + 3) L (.int (i32 R0) :: rest) S) : V K E Mi pc L (a1 :: .ref (kA K 0) :: rest) σ :=
  cl_L_96 hE ho hd hc hdc h8 (fun _ _ h => by rw [h.1, h.2]; exact kk)
theorem nm_X5_many : NmOk mX5_many 1 := ⟨⟨by decide +kernel, by decide +kernel, by decide +kernel⟩, by decide⟩
theorem cl_L_99 {K : Ctx} {E : ME} {Mi : MI} {d dc pc : Nat} {L : List (Option Value)} {rest : List Value} {σ : Sto} {a1 : Value} {post : Int → Sto → Prop} (hE : Ok K E Mi d) (ho : Mi.1.cls = RL) (hd : decode Mi.2.1 pc = .ok (.invokevirtual 99, 3)) (hc : CtI K mX5_many dc [.ref (kA K 19), a1] σ post) (hdc : Nat.blt dc d = true) (h8 : Nat.ble (rest.map fun v => v.category).sum 8 = true) (kk : ∀ (r : Int) (σ' : Sto), post r σ' → V K E Mi (pc + 3) L (.int (i32 r) :: rest) σ') : V K E Mi pc L (a1 :: .ref (kA K 19) :: rest) σ :=
  V_callI hE (run_V (k := 19) (n := 1) (As := [a1]) hE rfl rfl (by rw [ho]; exact tw_ml_L_99) tw_ins_X5_many tw_sel_X5_many tw_ini_X5 tw_cod_X5_many nm_X5_many hdc rfl h8 hc hd) kk
theorem cf_L_99 {K : Ctx} {E : ME} {Mi : MI} {d dc pc : Nat} {L : List (Option Value)} {rest : List Value} {σ : Sto} {a1 : Value} {R0 : Int} {S : Sto} (hE : Ok K E Mi d) (ho : Mi.1.cls = RL) (hd : decode Mi.2.1 pc = .ok (.invokevirtual 99, 3)) (hc : CtI K mX5_many dc [.ref (kA K 19), a1] σ (fun r σ' => r = R0 ∧ σ' = S)) (hdc : Nat.blt dc d = true) (h8 : Nat.ble (rest.map fun v => v.category).sum 8 = true) (kk : V K E Mi (pc + 3) L (.int (i32 R0) :: rest) S) : V K E Mi pc L (a1 :: .ref (kA K 19) :: rest) σ :=
  cl_L_99 hE ho hd hc hdc h8 (fun _ _ h => by rw [h.1, h.2]; exact kk)
theorem nm_X4_cellOf : NmOk mX4_cellOf 2 := ⟨⟨by decide +kernel, by decide +kernel, by decide +kernel⟩, by decide⟩
theorem cl_X0_29 {K : Ctx} {E : ME} {Mi : MI} {d dc pc : Nat} {L : List (Option Value)} {rest : List Value} {σ : Sto} {a1 a2 : Value} {post : Int → Sto → Prop} (hE : Ok K E Mi d) (ho : Mi.1.cls = RX0) (hd : decode Mi.2.1 pc = .ok (.invokestatic 29, 3)) (hc : CtI K mX4_cellOf dc [a1, a2] σ post) (hdc : Nat.blt dc d = true) (h8 : Nat.ble (rest.map fun v => v.category).sum 8 = true) (kk : ∀ (r : Int) (σ' : Sto), post r σ' → V K E Mi (pc + 3) L (.int (i32 r) :: rest) σ') : V K E Mi pc L (a2 :: a1 :: rest) σ :=
  V_callI hE (run_SN (n := 2) (As := [a1, a2]) hE (by rw [ho]; exact nw_ml_X0_29) tw_sta_X4_cellOf tw_ini_X4 tw_cod_X4_cellOf nm_X4_cellOf hdc rfl h8 hc hd) kk
theorem cf_X0_29 {K : Ctx} {E : ME} {Mi : MI} {d dc pc : Nat} {L : List (Option Value)} {rest : List Value} {σ : Sto} {a1 a2 : Value} {R0 : Int} {S : Sto} (hE : Ok K E Mi d) (ho : Mi.1.cls = RX0) (hd : decode Mi.2.1 pc = .ok (.invokestatic 29, 3)) (hc : CtI K mX4_cellOf dc [a1, a2] σ (fun r σ' => r = R0 ∧ σ' = S)) (hdc : Nat.blt dc d = true) (h8 : Nat.ble (rest.map fun v => v.category).sum 8 = true) (kk : V K E Mi (pc + 3) L (.int (i32 R0) :: rest) S) : V K E Mi pc L (a2 :: a1 :: rest) σ :=
  cl_X0_29 hE ho hd hc hdc h8 (fun _ _ h => by rw [h.1, h.2]; exact kk)
theorem nm_X0_pointsOf : NmOk mX0_pointsOf 1 := ⟨⟨by decide +kernel, by decide +kernel, by decide +kernel⟩, by decide⟩
theorem cl_X0_33 {K : Ctx} {E : ME} {Mi : MI} {d dc pc : Nat} {L : List (Option Value)} {rest : List Value} {σ : Sto} {a1 : Value} {post : Int → Sto → Prop} (hE : Ok K E Mi d) (ho : Mi.1.cls = RX0) (hd : decode Mi.2.1 pc = .ok (.invokevirtual 33, 3)) (hc : CtI K mX0_pointsOf dc [.ref (kA K 1), a1] σ post) (hdc : Nat.blt dc d = true) (h8 : Nat.ble (rest.map fun v => v.category).sum 8 = true) (kk : ∀ (r : Int) (σ' : Sto), post r σ' → V K E Mi (pc + 3) L (.int (i32 r) :: rest) σ') : V K E Mi pc L (a1 :: .ref (kA K 1) :: rest) σ :=
  V_callI hE (run_V (k := 1) (n := 1) (As := [a1]) hE rfl rfl (by rw [ho]; exact tw_ml_X0_33) tw_ins_X0_pointsOf tw_sel_X0_pointsOf tw_ini_X0 tw_cod_X0_pointsOf nm_X0_pointsOf hdc rfl h8 hc hd) kk
theorem cf_X0_33 {K : Ctx} {E : ME} {Mi : MI} {d dc pc : Nat} {L : List (Option Value)} {rest : List Value} {σ : Sto} {a1 : Value} {R0 : Int} {S : Sto} (hE : Ok K E Mi d) (ho : Mi.1.cls = RX0) (hd : decode Mi.2.1 pc = .ok (.invokevirtual 33, 3)) (hc : CtI K mX0_pointsOf dc [.ref (kA K 1), a1] σ (fun r σ' => r = R0 ∧ σ' = S)) (hdc : Nat.blt dc d = true) (h8 : Nat.ble (rest.map fun v => v.category).sum 8 = true) (kk : V K E Mi (pc + 3) L (.int (i32 R0) :: rest) S) : V K E Mi pc L (a1 :: .ref (kA K 1) :: rest) σ :=
  cl_X0_33 hE ho hd hc hdc h8 (fun _ _ h => by rw [h.1, h.2]; exact kk)
theorem nm_X0_cell : NmOk mX0_cell 3 := ⟨⟨by decide +kernel, by decide +kernel, by decide +kernel⟩, by decide⟩
theorem cl_X0_43 {K : Ctx} {E : ME} {Mi : MI} {d dc pc : Nat} {L : List (Option Value)} {rest : List Value} {σ : Sto} {a1 a2 a3 : Value} {post : Int → Sto → Prop} (hE : Ok K E Mi d) (ho : Mi.1.cls = RX0) (hd : decode Mi.2.1 pc = .ok (.invokevirtual 43, 3)) (hc : CtI K mX0_cell dc [.ref (kA K 1), a1, a2, a3] σ post) (hdc : Nat.blt dc d = true) (h8 : Nat.ble (rest.map fun v => v.category).sum 8 = true) (kk : ∀ (r : Int) (σ' : Sto), post r σ' → V K E Mi (pc + 3) L (.int (i32 r) :: rest) σ') : V K E Mi pc L (a3 :: a2 :: a1 :: .ref (kA K 1) :: rest) σ :=
  V_callI hE (run_V (k := 1) (n := 3) (As := [a1, a2, a3]) hE rfl rfl (by rw [ho]; exact tw_ml_X0_43) tw_ins_X0_cell tw_sel_X0_cell tw_ini_X0 tw_cod_X0_cell nm_X0_cell hdc rfl h8 hc hd) kk
theorem cf_X0_43 {K : Ctx} {E : ME} {Mi : MI} {d dc pc : Nat} {L : List (Option Value)} {rest : List Value} {σ : Sto} {a1 a2 a3 : Value} {R0 : Int} {S : Sto} (hE : Ok K E Mi d) (ho : Mi.1.cls = RX0) (hd : decode Mi.2.1 pc = .ok (.invokevirtual 43, 3)) (hc : CtI K mX0_cell dc [.ref (kA K 1), a1, a2, a3] σ (fun r σ' => r = R0 ∧ σ' = S)) (hdc : Nat.blt dc d = true) (h8 : Nat.ble (rest.map fun v => v.category).sum 8 = true) (kk : V K E Mi (pc + 3) L (.int (i32 R0) :: rest) S) : V K E Mi pc L (a3 :: a2 :: a1 :: .ref (kA K 1) :: rest) σ :=
  cl_X0_43 hE ho hd hc hdc h8 (fun _ _ h => by rw [h.1, h.2]; exact kk)
theorem nm_X0_movedBy : NmOk mX0_movedBy 1 := ⟨⟨by decide +kernel, by decide +kernel, by decide +kernel⟩, by decide⟩
theorem cl_X0_47 {K : Ctx} {E : ME} {Mi : MI} {d dc pc : Nat} {L : List (Option Value)} {rest : List Value} {σ : Sto} {a1 : Value} {post : Int → Sto → Prop} (hE : Ok K E Mi d) (ho : Mi.1.cls = RX0) (hd : decode Mi.2.1 pc = .ok (.invokevirtual 47, 3)) (hc : CtI K mX0_movedBy dc [.ref (kA K 1), a1] σ post) (hdc : Nat.blt dc d = true) (h8 : Nat.ble (rest.map fun v => v.category).sum 8 = true) (kk : ∀ (r : Int) (σ' : Sto), post r σ' → V K E Mi (pc + 3) L (.int (i32 r) :: rest) σ') : V K E Mi pc L (a1 :: .ref (kA K 1) :: rest) σ :=
  V_callI hE (run_V (k := 1) (n := 1) (As := [a1]) hE rfl rfl (by rw [ho]; exact tw_ml_X0_47) tw_ins_X0_movedBy tw_sel_X0_movedBy tw_ini_X0 tw_cod_X0_movedBy nm_X0_movedBy hdc rfl h8 hc hd) kk
theorem cf_X0_47 {K : Ctx} {E : ME} {Mi : MI} {d dc pc : Nat} {L : List (Option Value)} {rest : List Value} {σ : Sto} {a1 : Value} {R0 : Int} {S : Sto} (hE : Ok K E Mi d) (ho : Mi.1.cls = RX0) (hd : decode Mi.2.1 pc = .ok (.invokevirtual 47, 3)) (hc : CtI K mX0_movedBy dc [.ref (kA K 1), a1] σ (fun r σ' => r = R0 ∧ σ' = S)) (hdc : Nat.blt dc d = true) (h8 : Nat.ble (rest.map fun v => v.category).sum 8 = true) (kk : V K E Mi (pc + 3) L (.int (i32 R0) :: rest) S) : V K E Mi pc L (a1 :: .ref (kA K 1) :: rest) σ :=
  cl_X0_47 hE ho hd hc hdc h8 (fun _ _ h => by rw [h.1, h.2]; exact kk)
theorem cl_X1_28 {K : Ctx} {E : ME} {Mi : MI} {d dc pc : Nat} {L : List (Option Value)} {rest : List Value} {σ : Sto} {a1 a2 : Value} {post : Int → Sto → Prop} (hE : Ok K E Mi d) (ho : Mi.1.cls = RX1) (hd : decode Mi.2.1 pc = .ok (.invokestatic 28, 3)) (hc : CtI K mX4_cellOf dc [a1, a2] σ post) (hdc : Nat.blt dc d = true) (h8 : Nat.ble (rest.map fun v => v.category).sum 8 = true) (kk : ∀ (r : Int) (σ' : Sto), post r σ' → V K E Mi (pc + 3) L (.int (i32 r) :: rest) σ') : V K E Mi pc L (a2 :: a1 :: rest) σ :=
  V_callI hE (run_SN (n := 2) (As := [a1, a2]) hE (by rw [ho]; exact nw_ml_X1_28) tw_sta_X4_cellOf tw_ini_X4 tw_cod_X4_cellOf nm_X4_cellOf hdc rfl h8 hc hd) kk
theorem cf_X1_28 {K : Ctx} {E : ME} {Mi : MI} {d dc pc : Nat} {L : List (Option Value)} {rest : List Value} {σ : Sto} {a1 a2 : Value} {R0 : Int} {S : Sto} (hE : Ok K E Mi d) (ho : Mi.1.cls = RX1) (hd : decode Mi.2.1 pc = .ok (.invokestatic 28, 3)) (hc : CtI K mX4_cellOf dc [a1, a2] σ (fun r σ' => r = R0 ∧ σ' = S)) (hdc : Nat.blt dc d = true) (h8 : Nat.ble (rest.map fun v => v.category).sum 8 = true) (kk : V K E Mi (pc + 3) L (.int (i32 R0) :: rest) S) : V K E Mi pc L (a2 :: a1 :: rest) σ :=
  cl_X1_28 hE ho hd hc hdc h8 (fun _ _ h => by rw [h.1, h.2]; exact kk)
theorem nm_X1_measure : NmOk mX1_measure 3 := ⟨⟨by decide +kernel, by decide +kernel, by decide +kernel⟩, by decide⟩
theorem cl_X1_35 {K : Ctx} {E : ME} {Mi : MI} {d dc pc : Nat} {L : List (Option Value)} {rest : List Value} {σ : Sto} {a1 a2 a3 : Value} {post : Sto → Prop} (hE : Ok K E Mi d) (ho : Mi.1.cls = RX1) (hd : decode Mi.2.1 pc = .ok (.invokevirtual 35, 3)) (hc : CtV K mX1_measure dc [.ref (kA K 4), a1, a2, a3] σ post) (hdc : Nat.blt dc d = true) (h8 : Nat.ble (rest.map fun v => v.category).sum 8 = true) (kk : ∀ σ' : Sto, post σ' → V K E Mi (pc + 3) L rest σ') : V K E Mi pc L (a3 :: a2 :: a1 :: .ref (kA K 4) :: rest) σ :=
  V_callV hE (run_V (k := 4) (n := 3) (As := [a1, a2, a3]) hE rfl rfl (by rw [ho]; exact tw_ml_X1_35) tw_ins_X1_measure tw_sel_X1_measure tw_ini_X1 tw_cod_X1_measure nm_X1_measure hdc rfl h8 hc hd) kk
theorem cf_X1_35 {K : Ctx} {E : ME} {Mi : MI} {d dc pc : Nat} {L : List (Option Value)} {rest : List Value} {σ : Sto} {a1 a2 a3 : Value} {S : Sto} (hE : Ok K E Mi d) (ho : Mi.1.cls = RX1) (hd : decode Mi.2.1 pc = .ok (.invokevirtual 35, 3)) (hc : CtV K mX1_measure dc [.ref (kA K 4), a1, a2, a3] σ (fun σ' => σ' = S)) (hdc : Nat.blt dc d = true) (h8 : Nat.ble (rest.map fun v => v.category).sum 8 = true) (kk : V K E Mi (pc + 3) L rest S) : V K E Mi pc L (a3 :: a2 :: a1 :: .ref (kA K 4) :: rest) σ :=
  cl_X1_35 hE ho hd hc hdc h8 (fun _ h => h ▸ kk)
theorem nm_X1_isBreak : NmOk mX1_isBreak 2 := ⟨⟨by decide +kernel, by decide +kernel, by decide +kernel⟩, by decide⟩
theorem cl_X1_39 {K : Ctx} {E : ME} {Mi : MI} {d dc pc : Nat} {L : List (Option Value)} {rest : List Value} {σ : Sto} {a1 a2 : Value} {post : Int → Sto → Prop} (hE : Ok K E Mi d) (ho : Mi.1.cls = RX1) (hd : decode Mi.2.1 pc = .ok (.invokevirtual 39, 3)) (hc : CtI K mX1_isBreak dc [.ref (kA K 4), a1, a2] σ post) (hdc : Nat.blt dc d = true) (h8 : Nat.ble (rest.map fun v => v.category).sum 8 = true) (kk : ∀ (r : Int) (σ' : Sto), post r σ' → V K E Mi (pc + 3) L (.int (i32 r) :: rest) σ') : V K E Mi pc L (a2 :: a1 :: .ref (kA K 4) :: rest) σ :=
  V_callI hE (run_V (k := 4) (n := 2) (As := [a1, a2]) hE rfl rfl (by rw [ho]; exact tw_ml_X1_39) tw_ins_X1_isBreak tw_sel_X1_isBreak tw_ini_X1 tw_cod_X1_isBreak nm_X1_isBreak hdc rfl h8 hc hd) kk
theorem cf_X1_39 {K : Ctx} {E : ME} {Mi : MI} {d dc pc : Nat} {L : List (Option Value)} {rest : List Value} {σ : Sto} {a1 a2 : Value} {R0 : Int} {S : Sto} (hE : Ok K E Mi d) (ho : Mi.1.cls = RX1) (hd : decode Mi.2.1 pc = .ok (.invokevirtual 39, 3)) (hc : CtI K mX1_isBreak dc [.ref (kA K 4), a1, a2] σ (fun r σ' => r = R0 ∧ σ' = S)) (hdc : Nat.blt dc d = true) (h8 : Nat.ble (rest.map fun v => v.category).sum 8 = true) (kk : V K E Mi (pc + 3) L (.int (i32 R0) :: rest) S) : V K E Mi pc L (a2 :: a1 :: .ref (kA K 4) :: rest) σ :=
  cl_X1_39 hE ho hd hc hdc h8 (fun _ _ h => by rw [h.1, h.2]; exact kk)
theorem nm_X1_isThere : NmOk mX1_isThere 1 := ⟨⟨by decide +kernel, by decide +kernel, by decide +kernel⟩, by decide⟩
theorem cl_X1_43 {K : Ctx} {E : ME} {Mi : MI} {d dc pc : Nat} {L : List (Option Value)} {rest : List Value} {σ : Sto} {a1 : Value} {post : Int → Sto → Prop} (hE : Ok K E Mi d) (ho : Mi.1.cls = RX1) (hd : decode Mi.2.1 pc = .ok (.invokevirtual 43, 3)) (hc : CtI K mX1_isThere dc [.ref (kA K 4), a1] σ post) (hdc : Nat.blt dc d = true) (h8 : Nat.ble (rest.map fun v => v.category).sum 8 = true) (kk : ∀ (r : Int) (σ' : Sto), post r σ' → V K E Mi (pc + 3) L (.int (i32 r) :: rest) σ') : V K E Mi pc L (a1 :: .ref (kA K 4) :: rest) σ :=
  V_callI hE (run_V (k := 4) (n := 1) (As := [a1]) hE rfl rfl (by rw [ho]; exact tw_ml_X1_43) tw_ins_X1_isThere tw_sel_X1_isThere tw_ini_X1 tw_cod_X1_isThere nm_X1_isThere hdc rfl h8 hc hd) kk
theorem cf_X1_43 {K : Ctx} {E : ME} {Mi : MI} {d dc pc : Nat} {L : List (Option Value)} {rest : List Value} {σ : Sto} {a1 : Value} {R0 : Int} {S : Sto} (hE : Ok K E Mi d) (ho : Mi.1.cls = RX1) (hd : decode Mi.2.1 pc = .ok (.invokevirtual 43, 3)) (hc : CtI K mX1_isThere dc [.ref (kA K 4), a1] σ (fun r σ' => r = R0 ∧ σ' = S)) (hdc : Nat.blt dc d = true) (h8 : Nat.ble (rest.map fun v => v.category).sum 8 = true) (kk : V K E Mi (pc + 3) L (.int (i32 R0) :: rest) S) : V K E Mi pc L (a1 :: .ref (kA K 4) :: rest) σ :=
  cl_X1_43 hE ho hd hc hdc h8 (fun _ _ h => by rw [h.1, h.2]; exact kk)
theorem nm_X2_keepFewest : NmOk mX2_keepFewest 1 := ⟨⟨by decide +kernel, by decide +kernel, by decide +kernel⟩, by decide⟩
theorem cl_X2_43 {K : Ctx} {E : ME} {Mi : MI} {d dc pc : Nat} {L : List (Option Value)} {rest : List Value} {σ : Sto} {a1 : Value} {post : Sto → Prop} (hE : Ok K E Mi d) (ho : Mi.1.cls = RX2) (hd : decode Mi.2.1 pc = .ok (.invokevirtual 43, 3)) (hc : CtV K mX2_keepFewest dc [.ref (kA K 3), a1] σ post) (hdc : Nat.blt dc d = true) (h8 : Nat.ble (rest.map fun v => v.category).sum 8 = true) (kk : ∀ σ' : Sto, post σ' → V K E Mi (pc + 3) L rest σ') : V K E Mi pc L (a1 :: .ref (kA K 3) :: rest) σ :=
  V_callV hE (run_V (k := 3) (n := 1) (As := [a1]) hE rfl rfl (by rw [ho]; exact tw_ml_X2_43) tw_ins_X2_keepFewest tw_sel_X2_keepFewest tw_ini_X2 tw_cod_X2_keepFewest nm_X2_keepFewest hdc rfl h8 hc hd) kk
theorem cf_X2_43 {K : Ctx} {E : ME} {Mi : MI} {d dc pc : Nat} {L : List (Option Value)} {rest : List Value} {σ : Sto} {a1 : Value} {S : Sto} (hE : Ok K E Mi d) (ho : Mi.1.cls = RX2) (hd : decode Mi.2.1 pc = .ok (.invokevirtual 43, 3)) (hc : CtV K mX2_keepFewest dc [.ref (kA K 3), a1] σ (fun σ' => σ' = S)) (hdc : Nat.blt dc d = true) (h8 : Nat.ble (rest.map fun v => v.category).sum 8 = true) (kk : V K E Mi (pc + 3) L rest S) : V K E Mi pc L (a1 :: .ref (kA K 3) :: rest) σ :=
  cl_X2_43 hE ho hd hc hdc h8 (fun _ h => h ▸ kk)
theorem nm_X2_slot : NmOk mX2_slot 4 := ⟨⟨by decide +kernel, by decide +kernel, by decide +kernel⟩, by decide⟩
theorem cl_X2_47 {K : Ctx} {E : ME} {Mi : MI} {d dc pc : Nat} {L : List (Option Value)} {rest : List Value} {σ : Sto} {a1 a2 a3 a4 : Value} {post : Int → Sto → Prop} (hE : Ok K E Mi d) (ho : Mi.1.cls = RX2) (hd : decode Mi.2.1 pc = .ok (.invokevirtual 47, 3)) (hc : CtI K mX2_slot dc [.ref (kA K 3), a1, a2, a3, a4] σ post) (hdc : Nat.blt dc d = true) (h8 : Nat.ble (rest.map fun v => v.category).sum 8 = true) (kk : ∀ (r : Int) (σ' : Sto), post r σ' → V K E Mi (pc + 3) L (.int (i32 r) :: rest) σ') : V K E Mi pc L (a4 :: a3 :: a2 :: a1 :: .ref (kA K 3) :: rest) σ :=
  V_callI hE (run_V (k := 3) (n := 4) (As := [a1, a2, a3, a4]) hE rfl rfl (by rw [ho]; exact tw_ml_X2_47) tw_ins_X2_slot tw_sel_X2_slot tw_ini_X2 tw_cod_X2_slot nm_X2_slot hdc rfl h8 hc hd) kk
theorem cf_X2_47 {K : Ctx} {E : ME} {Mi : MI} {d dc pc : Nat} {L : List (Option Value)} {rest : List Value} {σ : Sto} {a1 a2 a3 a4 : Value} {R0 : Int} {S : Sto} (hE : Ok K E Mi d) (ho : Mi.1.cls = RX2) (hd : decode Mi.2.1 pc = .ok (.invokevirtual 47, 3)) (hc : CtI K mX2_slot dc [.ref (kA K 3), a1, a2, a3, a4] σ (fun r σ' => r = R0 ∧ σ' = S)) (hdc : Nat.blt dc d = true) (h8 : Nat.ble (rest.map fun v => v.category).sum 8 = true) (kk : V K E Mi (pc + 3) L (.int (i32 R0) :: rest) S) : V K E Mi pc L (a4 :: a3 :: a2 :: a1 :: .ref (kA K 3) :: rest) σ :=
  cl_X2_47 hE ho hd hc hdc h8 (fun _ _ h => by rw [h.1, h.2]; exact kk)
theorem nm_X2_firstLeading : NmOk mX2_firstLeading 4 := ⟨⟨by decide +kernel, by decide +kernel, by decide +kernel⟩, by decide⟩
theorem cl_X2_51 {K : Ctx} {E : ME} {Mi : MI} {d dc pc : Nat} {L : List (Option Value)} {rest : List Value} {σ : Sto} {a1 a2 a3 a4 : Value} {post : Int → Sto → Prop} (hE : Ok K E Mi d) (ho : Mi.1.cls = RX2) (hd : decode Mi.2.1 pc = .ok (.invokevirtual 51, 3)) (hc : CtI K mX2_firstLeading dc [.ref (kA K 3), a1, a2, a3, a4] σ post) (hdc : Nat.blt dc d = true) (h8 : Nat.ble (rest.map fun v => v.category).sum 8 = true) (kk : ∀ (r : Int) (σ' : Sto), post r σ' → V K E Mi (pc + 3) L (.int (i32 r) :: rest) σ') : V K E Mi pc L (a4 :: a3 :: a2 :: a1 :: .ref (kA K 3) :: rest) σ :=
  V_callI hE (run_V (k := 3) (n := 4) (As := [a1, a2, a3, a4]) hE rfl rfl (by rw [ho]; exact tw_ml_X2_51) tw_ins_X2_firstLeading tw_sel_X2_firstLeading tw_ini_X2 tw_cod_X2_firstLeading nm_X2_firstLeading hdc rfl h8 hc hd) kk
theorem cf_X2_51 {K : Ctx} {E : ME} {Mi : MI} {d dc pc : Nat} {L : List (Option Value)} {rest : List Value} {σ : Sto} {a1 a2 a3 a4 : Value} {R0 : Int} {S : Sto} (hE : Ok K E Mi d) (ho : Mi.1.cls = RX2) (hd : decode Mi.2.1 pc = .ok (.invokevirtual 51, 3)) (hc : CtI K mX2_firstLeading dc [.ref (kA K 3), a1, a2, a3, a4] σ (fun r σ' => r = R0 ∧ σ' = S)) (hdc : Nat.blt dc d = true) (h8 : Nat.ble (rest.map fun v => v.category).sum 8 = true) (kk : V K E Mi (pc + 3) L (.int (i32 R0) :: rest) S) : V K E Mi pc L (a4 :: a3 :: a2 :: a1 :: .ref (kA K 3) :: rest) σ :=
  cl_X2_51 hE ho hd hc hdc h8 (fun _ _ h => by rw [h.1, h.2]; exact kk)
theorem nm_X2_fewestFrom : NmOk mX2_fewestFrom 4 := ⟨⟨by decide +kernel, by decide +kernel, by decide +kernel⟩, by decide⟩
theorem cl_X2_54 {K : Ctx} {E : ME} {Mi : MI} {d dc pc : Nat} {L : List (Option Value)} {rest : List Value} {σ : Sto} {a1 a2 a3 a4 : Value} {post : Int → Sto → Prop} (hE : Ok K E Mi d) (ho : Mi.1.cls = RX2) (hd : decode Mi.2.1 pc = .ok (.invokevirtual 54, 3)) (hc : CtI K mX2_fewestFrom dc [.ref (kA K 3), a1, a2, a3, a4] σ post) (hdc : Nat.blt dc d = true) (h8 : Nat.ble (rest.map fun v => v.category).sum 8 = true) (kk : ∀ (r : Int) (σ' : Sto), post r σ' → V K E Mi (pc + 3) L (.int (i32 r) :: rest) σ') : V K E Mi pc L (a4 :: a3 :: a2 :: a1 :: .ref (kA K 3) :: rest) σ :=
  V_callI hE (run_V (k := 3) (n := 4) (As := [a1, a2, a3, a4]) hE rfl rfl (by rw [ho]; exact tw_ml_X2_54) tw_ins_X2_fewestFrom tw_sel_X2_fewestFrom tw_ini_X2 tw_cod_X2_fewestFrom nm_X2_fewestFrom hdc rfl h8 hc hd) kk
theorem cf_X2_54 {K : Ctx} {E : ME} {Mi : MI} {d dc pc : Nat} {L : List (Option Value)} {rest : List Value} {σ : Sto} {a1 a2 a3 a4 : Value} {R0 : Int} {S : Sto} (hE : Ok K E Mi d) (ho : Mi.1.cls = RX2) (hd : decode Mi.2.1 pc = .ok (.invokevirtual 54, 3)) (hc : CtI K mX2_fewestFrom dc [.ref (kA K 3), a1, a2, a3, a4] σ (fun r σ' => r = R0 ∧ σ' = S)) (hdc : Nat.blt dc d = true) (h8 : Nat.ble (rest.map fun v => v.category).sum 8 = true) (kk : V K E Mi (pc + 3) L (.int (i32 R0) :: rest) S) : V K E Mi pc L (a4 :: a3 :: a2 :: a1 :: .ref (kA K 3) :: rest) σ :=
  cl_X2_54 hE ho hd hc hdc h8 (fun _ _ h => by rw [h.1, h.2]; exact kk)
theorem nm_X2_jumpUnmoved : NmOk mX2_jumpUnmoved 4 := ⟨⟨by decide +kernel, by decide +kernel, by decide +kernel⟩, by decide⟩
theorem cl_X2_57 {K : Ctx} {E : ME} {Mi : MI} {d dc pc : Nat} {L : List (Option Value)} {rest : List Value} {σ : Sto} {a1 a2 a3 a4 : Value} {post : Int → Sto → Prop} (hE : Ok K E Mi d) (ho : Mi.1.cls = RX2) (hd : decode Mi.2.1 pc = .ok (.invokevirtual 57, 3)) (hc : CtI K mX2_jumpUnmoved dc [.ref (kA K 3), a1, a2, a3, a4] σ post) (hdc : Nat.blt dc d = true) (h8 : Nat.ble (rest.map fun v => v.category).sum 8 = true) (kk : ∀ (r : Int) (σ' : Sto), post r σ' → V K E Mi (pc + 3) L (.int (i32 r) :: rest) σ') : V K E Mi pc L (a4 :: a3 :: a2 :: a1 :: .ref (kA K 3) :: rest) σ :=
  V_callI hE (run_V (k := 3) (n := 4) (As := [a1, a2, a3, a4]) hE rfl rfl (by rw [ho]; exact tw_ml_X2_57) tw_ins_X2_jumpUnmoved tw_sel_X2_jumpUnmoved tw_ini_X2 tw_cod_X2_jumpUnmoved nm_X2_jumpUnmoved hdc rfl h8 hc hd) kk
theorem cf_X2_57 {K : Ctx} {E : ME} {Mi : MI} {d dc pc : Nat} {L : List (Option Value)} {rest : List Value} {σ : Sto} {a1 a2 a3 a4 : Value} {R0 : Int} {S : Sto} (hE : Ok K E Mi d) (ho : Mi.1.cls = RX2) (hd : decode Mi.2.1 pc = .ok (.invokevirtual 57, 3)) (hc : CtI K mX2_jumpUnmoved dc [.ref (kA K 3), a1, a2, a3, a4] σ (fun r σ' => r = R0 ∧ σ' = S)) (hdc : Nat.blt dc d = true) (h8 : Nat.ble (rest.map fun v => v.category).sum 8 = true) (kk : V K E Mi (pc + 3) L (.int (i32 R0) :: rest) S) : V K E Mi pc L (a4 :: a3 :: a2 :: a1 :: .ref (kA K 3) :: rest) σ :=
  cl_X2_57 hE ho hd hc hdc h8 (fun _ _ h => by rw [h.1, h.2]; exact kk)
theorem nm_X2_lastFit : NmOk mX2_lastFit 2 := ⟨⟨by decide +kernel, by decide +kernel, by decide +kernel⟩, by decide⟩
theorem cl_X2_60 {K : Ctx} {E : ME} {Mi : MI} {d dc pc : Nat} {L : List (Option Value)} {rest : List Value} {σ : Sto} {a1 a2 : Value} {post : Int → Sto → Prop} (hE : Ok K E Mi d) (ho : Mi.1.cls = RX2) (hd : decode Mi.2.1 pc = .ok (.invokevirtual 60, 3)) (hc : CtI K mX2_lastFit dc [.ref (kA K 3), a1, a2] σ post) (hdc : Nat.blt dc d = true) (h8 : Nat.ble (rest.map fun v => v.category).sum 8 = true) (kk : ∀ (r : Int) (σ' : Sto), post r σ' → V K E Mi (pc + 3) L (.int (i32 r) :: rest) σ') : V K E Mi pc L (a2 :: a1 :: .ref (kA K 3) :: rest) σ :=
  V_callI hE (run_V (k := 3) (n := 2) (As := [a1, a2]) hE rfl rfl (by rw [ho]; exact tw_ml_X2_60) tw_ins_X2_lastFit tw_sel_X2_lastFit tw_ini_X2 tw_cod_X2_lastFit nm_X2_lastFit hdc rfl h8 hc hd) kk
theorem cf_X2_60 {K : Ctx} {E : ME} {Mi : MI} {d dc pc : Nat} {L : List (Option Value)} {rest : List Value} {σ : Sto} {a1 a2 : Value} {R0 : Int} {S : Sto} (hE : Ok K E Mi d) (ho : Mi.1.cls = RX2) (hd : decode Mi.2.1 pc = .ok (.invokevirtual 60, 3)) (hc : CtI K mX2_lastFit dc [.ref (kA K 3), a1, a2] σ (fun r σ' => r = R0 ∧ σ' = S)) (hdc : Nat.blt dc d = true) (h8 : Nat.ble (rest.map fun v => v.category).sum 8 = true) (kk : V K E Mi (pc + 3) L (.int (i32 R0) :: rest) S) : V K E Mi pc L (a2 :: a1 :: .ref (kA K 3) :: rest) σ :=
  cl_X2_60 hE ho hd hc hdc h8 (fun _ _ h => by rw [h.1, h.2]; exact kk)
theorem nm_X2_firstFit : NmOk mX2_firstFit 2 := ⟨⟨by decide +kernel, by decide +kernel, by decide +kernel⟩, by decide⟩
theorem cl_X2_63 {K : Ctx} {E : ME} {Mi : MI} {d dc pc : Nat} {L : List (Option Value)} {rest : List Value} {σ : Sto} {a1 a2 : Value} {post : Int → Sto → Prop} (hE : Ok K E Mi d) (ho : Mi.1.cls = RX2) (hd : decode Mi.2.1 pc = .ok (.invokevirtual 63, 3)) (hc : CtI K mX2_firstFit dc [.ref (kA K 3), a1, a2] σ post) (hdc : Nat.blt dc d = true) (h8 : Nat.ble (rest.map fun v => v.category).sum 8 = true) (kk : ∀ (r : Int) (σ' : Sto), post r σ' → V K E Mi (pc + 3) L (.int (i32 r) :: rest) σ') : V K E Mi pc L (a2 :: a1 :: .ref (kA K 3) :: rest) σ :=
  V_callI hE (run_V (k := 3) (n := 2) (As := [a1, a2]) hE rfl rfl (by rw [ho]; exact tw_ml_X2_63) tw_ins_X2_firstFit tw_sel_X2_firstFit tw_ini_X2 tw_cod_X2_firstFit nm_X2_firstFit hdc rfl h8 hc hd) kk
theorem cf_X2_63 {K : Ctx} {E : ME} {Mi : MI} {d dc pc : Nat} {L : List (Option Value)} {rest : List Value} {σ : Sto} {a1 a2 : Value} {R0 : Int} {S : Sto} (hE : Ok K E Mi d) (ho : Mi.1.cls = RX2) (hd : decode Mi.2.1 pc = .ok (.invokevirtual 63, 3)) (hc : CtI K mX2_firstFit dc [.ref (kA K 3), a1, a2] σ (fun r σ' => r = R0 ∧ σ' = S)) (hdc : Nat.blt dc d = true) (h8 : Nat.ble (rest.map fun v => v.category).sum 8 = true) (kk : V K E Mi (pc + 3) L (.int (i32 R0) :: rest) S) : V K E Mi pc L (a2 :: a1 :: .ref (kA K 3) :: rest) σ :=
  cl_X2_63 hE ho hd hc hdc h8 (fun _ _ h => by rw [h.1, h.2]; exact kk)
theorem nm_X3_bendAt : NmOk mX3_bendAt 1 := ⟨⟨by decide +kernel, by decide +kernel, by decide +kernel⟩, by decide⟩
theorem cl_X3_15 {K : Ctx} {E : ME} {Mi : MI} {d dc pc : Nat} {L : List (Option Value)} {rest : List Value} {σ : Sto} {a1 : Value} {post : Int → Sto → Prop} (hE : Ok K E Mi d) (ho : Mi.1.cls = RX3) (hd : decode Mi.2.1 pc = .ok (.invokevirtual 15, 3)) (hc : CtI K mX3_bendAt dc [.ref (kA K 2), a1] σ post) (hdc : Nat.blt dc d = true) (h8 : Nat.ble (rest.map fun v => v.category).sum 8 = true) (kk : ∀ (r : Int) (σ' : Sto), post r σ' → V K E Mi (pc + 3) L (.int (i32 r) :: rest) σ') : V K E Mi pc L (a1 :: .ref (kA K 2) :: rest) σ :=
  V_callI hE (run_V (k := 2) (n := 1) (As := [a1]) hE rfl rfl (by rw [ho]; exact tw_ml_X3_15) tw_ins_X3_bendAt tw_sel_X3_bendAt tw_ini_X3 tw_cod_X3_bendAt nm_X3_bendAt hdc rfl h8 hc hd) kk
theorem cf_X3_15 {K : Ctx} {E : ME} {Mi : MI} {d dc pc : Nat} {L : List (Option Value)} {rest : List Value} {σ : Sto} {a1 : Value} {R0 : Int} {S : Sto} (hE : Ok K E Mi d) (ho : Mi.1.cls = RX3) (hd : decode Mi.2.1 pc = .ok (.invokevirtual 15, 3)) (hc : CtI K mX3_bendAt dc [.ref (kA K 2), a1] σ (fun r σ' => r = R0 ∧ σ' = S)) (hdc : Nat.blt dc d = true) (h8 : Nat.ble (rest.map fun v => v.category).sum 8 = true) (kk : V K E Mi (pc + 3) L (.int (i32 R0) :: rest) S) : V K E Mi pc L (a1 :: .ref (kA K 2) :: rest) σ :=
  cl_X3_15 hE ho hd hc hdc h8 (fun _ _ h => by rw [h.1, h.2]; exact kk)
theorem nm_X3_jumpAt : NmOk mX3_jumpAt 1 := ⟨⟨by decide +kernel, by decide +kernel, by decide +kernel⟩, by decide⟩
theorem cl_X3_23 {K : Ctx} {E : ME} {Mi : MI} {d dc pc : Nat} {L : List (Option Value)} {rest : List Value} {σ : Sto} {a1 : Value} {post : Int → Sto → Prop} (hE : Ok K E Mi d) (ho : Mi.1.cls = RX3) (hd : decode Mi.2.1 pc = .ok (.invokevirtual 23, 3)) (hc : CtI K mX3_jumpAt dc [.ref (kA K 2), a1] σ post) (hdc : Nat.blt dc d = true) (h8 : Nat.ble (rest.map fun v => v.category).sum 8 = true) (kk : ∀ (r : Int) (σ' : Sto), post r σ' → V K E Mi (pc + 3) L (.int (i32 r) :: rest) σ') : V K E Mi pc L (a1 :: .ref (kA K 2) :: rest) σ :=
  V_callI hE (run_V (k := 2) (n := 1) (As := [a1]) hE rfl rfl (by rw [ho]; exact tw_ml_X3_23) tw_ins_X3_jumpAt tw_sel_X3_jumpAt tw_ini_X3 tw_cod_X3_jumpAt nm_X3_jumpAt hdc rfl h8 hc hd) kk
theorem cf_X3_23 {K : Ctx} {E : ME} {Mi : MI} {d dc pc : Nat} {L : List (Option Value)} {rest : List Value} {σ : Sto} {a1 : Value} {R0 : Int} {S : Sto} (hE : Ok K E Mi d) (ho : Mi.1.cls = RX3) (hd : decode Mi.2.1 pc = .ok (.invokevirtual 23, 3)) (hc : CtI K mX3_jumpAt dc [.ref (kA K 2), a1] σ (fun r σ' => r = R0 ∧ σ' = S)) (hdc : Nat.blt dc d = true) (h8 : Nat.ble (rest.map fun v => v.category).sum 8 = true) (kk : V K E Mi (pc + 3) L (.int (i32 R0) :: rest) S) : V K E Mi pc L (a1 :: .ref (kA K 2) :: rest) σ :=
  cl_X3_23 hE ho hd hc hdc h8 (fun _ _ h => by rw [h.1, h.2]; exact kk)
theorem nm_X0_renew : NmOk mX0_renew 2 := ⟨⟨by decide +kernel, by decide +kernel, by decide +kernel⟩, by decide⟩
theorem cl_X4_57 {K : Ctx} {E : ME} {Mi : MI} {d dc pc : Nat} {L : List (Option Value)} {rest : List Value} {σ : Sto} {a1 a2 : Value} {post : Sto → Prop} (hE : Ok K E Mi d) (ho : Mi.1.cls = RX4) (hd : decode Mi.2.1 pc = .ok (.invokevirtual 57, 3)) (hc : CtV K mX0_renew dc [.ref (kA K 1), a1, a2] σ post) (hdc : Nat.blt dc d = true) (h8 : Nat.ble (rest.map fun v => v.category).sum 8 = true) (kk : ∀ σ' : Sto, post σ' → V K E Mi (pc + 3) L rest σ') : V K E Mi pc L (a2 :: a1 :: .ref (kA K 1) :: rest) σ :=
  V_callV hE (run_VN (k := 1) (n := 2) (As := [a1, a2]) hE rfl rfl (by rw [ho]; exact nw_ml_X4_57) tw_ins_X0_renew tw_sel_X0_renew tw_ini_X0 tw_cod_X0_renew nm_X0_renew hdc rfl h8 hc hd) kk
theorem cf_X4_57 {K : Ctx} {E : ME} {Mi : MI} {d dc pc : Nat} {L : List (Option Value)} {rest : List Value} {σ : Sto} {a1 a2 : Value} {S : Sto} (hE : Ok K E Mi d) (ho : Mi.1.cls = RX4) (hd : decode Mi.2.1 pc = .ok (.invokevirtual 57, 3)) (hc : CtV K mX0_renew dc [.ref (kA K 1), a1, a2] σ (fun σ' => σ' = S)) (hdc : Nat.blt dc d = true) (h8 : Nat.ble (rest.map fun v => v.category).sum 8 = true) (kk : V K E Mi (pc + 3) L rest S) : V K E Mi pc L (a2 :: a1 :: .ref (kA K 1) :: rest) σ :=
  cl_X4_57 hE ho hd hc hdc h8 (fun _ h => h ▸ kk)
theorem nm_X4_isNot : NmOk mX4_isNot 3 := ⟨⟨by decide +kernel, by decide +kernel, by decide +kernel⟩, by decide⟩
theorem cl_X4_61 {K : Ctx} {E : ME} {Mi : MI} {d dc pc : Nat} {L : List (Option Value)} {rest : List Value} {σ : Sto} {a1 a2 a3 : Value} {post : Int → Sto → Prop} (hE : Ok K E Mi d) (ho : Mi.1.cls = RX4) (hd : decode Mi.2.1 pc = .ok (.invokestatic 61, 3)) (hc : CtI K mX4_isNot dc [a1, a2, a3] σ post) (hdc : Nat.blt dc d = true) (h8 : Nat.ble (rest.map fun v => v.category).sum 8 = true) (kk : ∀ (r : Int) (σ' : Sto), post r σ' → V K E Mi (pc + 3) L (.int (i32 r) :: rest) σ') : V K E Mi pc L (a3 :: a2 :: a1 :: rest) σ :=
  V_callI hE (run_S (n := 3) (As := [a1, a2, a3]) hE (by rw [ho]; exact tw_ml_X4_61) tw_sta_X4_isNot tw_ini_X4 tw_cod_X4_isNot nm_X4_isNot hdc rfl h8 hc hd) kk
theorem cf_X4_61 {K : Ctx} {E : ME} {Mi : MI} {d dc pc : Nat} {L : List (Option Value)} {rest : List Value} {σ : Sto} {a1 a2 a3 : Value} {R0 : Int} {S : Sto} (hE : Ok K E Mi d) (ho : Mi.1.cls = RX4) (hd : decode Mi.2.1 pc = .ok (.invokestatic 61, 3)) (hc : CtI K mX4_isNot dc [a1, a2, a3] σ (fun r σ' => r = R0 ∧ σ' = S)) (hdc : Nat.blt dc d = true) (h8 : Nat.ble (rest.map fun v => v.category).sum 8 = true) (kk : V K E Mi (pc + 3) L (.int (i32 R0) :: rest) S) : V K E Mi pc L (a3 :: a2 :: a1 :: rest) σ :=
  cl_X4_61 hE ho hd hc hdc h8 (fun _ _ h => by rw [h.1, h.2]; exact kk)
theorem nm_X0_hasPoint : NmOk mX0_hasPoint 2 := ⟨⟨by decide +kernel, by decide +kernel, by decide +kernel⟩, by decide⟩
theorem cl_X4_65 {K : Ctx} {E : ME} {Mi : MI} {d dc pc : Nat} {L : List (Option Value)} {rest : List Value} {σ : Sto} {a1 a2 : Value} {post : Int → Sto → Prop} (hE : Ok K E Mi d) (ho : Mi.1.cls = RX4) (hd : decode Mi.2.1 pc = .ok (.invokevirtual 65, 3)) (hc : CtI K mX0_hasPoint dc [.ref (kA K 1), a1, a2] σ post) (hdc : Nat.blt dc d = true) (h8 : Nat.ble (rest.map fun v => v.category).sum 8 = true) (kk : ∀ (r : Int) (σ' : Sto), post r σ' → V K E Mi (pc + 3) L (.int (i32 r) :: rest) σ') : V K E Mi pc L (a2 :: a1 :: .ref (kA K 1) :: rest) σ :=
  V_callI hE (run_VN (k := 1) (n := 2) (As := [a1, a2]) hE rfl rfl (by rw [ho]; exact nw_ml_X4_65) tw_ins_X0_hasPoint tw_sel_X0_hasPoint tw_ini_X0 tw_cod_X0_hasPoint nm_X0_hasPoint hdc rfl h8 hc hd) kk
theorem cf_X4_65 {K : Ctx} {E : ME} {Mi : MI} {d dc pc : Nat} {L : List (Option Value)} {rest : List Value} {σ : Sto} {a1 a2 : Value} {R0 : Int} {S : Sto} (hE : Ok K E Mi d) (ho : Mi.1.cls = RX4) (hd : decode Mi.2.1 pc = .ok (.invokevirtual 65, 3)) (hc : CtI K mX0_hasPoint dc [.ref (kA K 1), a1, a2] σ (fun r σ' => r = R0 ∧ σ' = S)) (hdc : Nat.blt dc d = true) (h8 : Nat.ble (rest.map fun v => v.category).sum 8 = true) (kk : V K E Mi (pc + 3) L (.int (i32 R0) :: rest) S) : V K E Mi pc L (a2 :: a1 :: .ref (kA K 1) :: rest) σ :=
  cl_X4_65 hE ho hd hc hdc h8 (fun _ _ h => by rw [h.1, h.2]; exact kk)
theorem cl_X4_69 {K : Ctx} {E : ME} {Mi : MI} {d dc pc : Nat} {L : List (Option Value)} {rest : List Value} {σ : Sto} {a1 a2 : Value} {post : Int → Sto → Prop} (hE : Ok K E Mi d) (ho : Mi.1.cls = RX4) (hd : decode Mi.2.1 pc = .ok (.invokestatic 69, 3)) (hc : CtI K mX4_cellOf dc [a1, a2] σ post) (hdc : Nat.blt dc d = true) (h8 : Nat.ble (rest.map fun v => v.category).sum 8 = true) (kk : ∀ (r : Int) (σ' : Sto), post r σ' → V K E Mi (pc + 3) L (.int (i32 r) :: rest) σ') : V K E Mi pc L (a2 :: a1 :: rest) σ :=
  V_callI hE (run_S (n := 2) (As := [a1, a2]) hE (by rw [ho]; exact tw_ml_X4_69) tw_sta_X4_cellOf tw_ini_X4 tw_cod_X4_cellOf nm_X4_cellOf hdc rfl h8 hc hd) kk
theorem cf_X4_69 {K : Ctx} {E : ME} {Mi : MI} {d dc pc : Nat} {L : List (Option Value)} {rest : List Value} {σ : Sto} {a1 a2 : Value} {R0 : Int} {S : Sto} (hE : Ok K E Mi d) (ho : Mi.1.cls = RX4) (hd : decode Mi.2.1 pc = .ok (.invokestatic 69, 3)) (hc : CtI K mX4_cellOf dc [a1, a2] σ (fun r σ' => r = R0 ∧ σ' = S)) (hdc : Nat.blt dc d = true) (h8 : Nat.ble (rest.map fun v => v.category).sum 8 = true) (kk : V K E Mi (pc + 3) L (.int (i32 R0) :: rest) S) : V K E Mi pc L (a2 :: a1 :: rest) σ :=
  cl_X4_69 hE ho hd hc hdc h8 (fun _ _ h => by rw [h.1, h.2]; exact kk)
theorem nm_X0_put : NmOk mX0_put 2 := ⟨⟨by decide +kernel, by decide +kernel, by decide +kernel⟩, by decide⟩
theorem cl_X4_73 {K : Ctx} {E : ME} {Mi : MI} {d dc pc : Nat} {L : List (Option Value)} {rest : List Value} {σ : Sto} {a1 a2 : Value} {post : Int → Sto → Prop} (hE : Ok K E Mi d) (ho : Mi.1.cls = RX4) (hd : decode Mi.2.1 pc = .ok (.invokevirtual 73, 3)) (hc : CtI K mX0_put dc [.ref (kA K 1), a1, a2] σ post) (hdc : Nat.blt dc d = true) (h8 : Nat.ble (rest.map fun v => v.category).sum 8 = true) (kk : ∀ (r : Int) (σ' : Sto), post r σ' → V K E Mi (pc + 3) L (.int (i32 r) :: rest) σ') : V K E Mi pc L (a2 :: a1 :: .ref (kA K 1) :: rest) σ :=
  V_callI hE (run_VN (k := 1) (n := 2) (As := [a1, a2]) hE rfl rfl (by rw [ho]; exact nw_ml_X4_73) tw_ins_X0_put tw_sel_X0_put tw_ini_X0 tw_cod_X0_put nm_X0_put hdc rfl h8 hc hd) kk
theorem cf_X4_73 {K : Ctx} {E : ME} {Mi : MI} {d dc pc : Nat} {L : List (Option Value)} {rest : List Value} {σ : Sto} {a1 a2 : Value} {R0 : Int} {S : Sto} (hE : Ok K E Mi d) (ho : Mi.1.cls = RX4) (hd : decode Mi.2.1 pc = .ok (.invokevirtual 73, 3)) (hc : CtI K mX0_put dc [.ref (kA K 1), a1, a2] σ (fun r σ' => r = R0 ∧ σ' = S)) (hdc : Nat.blt dc d = true) (h8 : Nat.ble (rest.map fun v => v.category).sum 8 = true) (kk : V K E Mi (pc + 3) L (.int (i32 R0) :: rest) S) : V K E Mi pc L (a2 :: a1 :: .ref (kA K 1) :: rest) σ :=
  cl_X4_73 hE ho hd hc hdc h8 (fun _ _ h => by rw [h.1, h.2]; exact kk)
theorem cl_X4_89 {K : Ctx} {E : ME} {Mi : MI} {d dc pc : Nat} {L : List (Option Value)} {rest : List Value} {σ : Sto} {a1 : Value} {post : Int → Sto → Prop} (hE : Ok K E Mi d) (ho : Mi.1.cls = RX4) (hd : decode Mi.2.1 pc = .ok (.invokevirtual 89, 3)) (hc : CtI K mX0_movedBy dc [.ref (kA K 1), a1] σ post) (hdc : Nat.blt dc d = true) (h8 : Nat.ble (rest.map fun v => v.category).sum 8 = true) (kk : ∀ (r : Int) (σ' : Sto), post r σ' → V K E Mi (pc + 3) L (.int (i32 r) :: rest) σ') : V K E Mi pc L (a1 :: .ref (kA K 1) :: rest) σ :=
  V_callI hE (run_VN (k := 1) (n := 1) (As := [a1]) hE rfl rfl (by rw [ho]; exact nw_ml_X4_89) tw_ins_X0_movedBy tw_sel_X0_movedBy tw_ini_X0 tw_cod_X0_movedBy nm_X0_movedBy hdc rfl h8 hc hd) kk
theorem cf_X4_89 {K : Ctx} {E : ME} {Mi : MI} {d dc pc : Nat} {L : List (Option Value)} {rest : List Value} {σ : Sto} {a1 : Value} {R0 : Int} {S : Sto} (hE : Ok K E Mi d) (ho : Mi.1.cls = RX4) (hd : decode Mi.2.1 pc = .ok (.invokevirtual 89, 3)) (hc : CtI K mX0_movedBy dc [.ref (kA K 1), a1] σ (fun r σ' => r = R0 ∧ σ' = S)) (hdc : Nat.blt dc d = true) (h8 : Nat.ble (rest.map fun v => v.category).sum 8 = true) (kk : V K E Mi (pc + 3) L (.int (i32 R0) :: rest) S) : V K E Mi pc L (a1 :: .ref (kA K 1) :: rest) σ :=
  cl_X4_89 hE ho hd hc hdc h8 (fun _ _ h => by rw [h.1, h.2]; exact kk)
theorem nm_X4_refusalOfLine : NmOk mX4_refusalOfLine 2 := ⟨⟨by decide +kernel, by decide +kernel, by decide +kernel⟩, by decide⟩
theorem cl_X4_93 {K : Ctx} {E : ME} {Mi : MI} {d dc pc : Nat} {L : List (Option Value)} {rest : List Value} {σ : Sto} {a1 a2 : Value} {post : Int → Sto → Prop} (hE : Ok K E Mi d) (ho : Mi.1.cls = RX4) (hd : decode Mi.2.1 pc = .ok (.invokevirtual 93, 3)) (hc : CtI K mX4_refusalOfLine dc [.ref (kA K 0), a1, a2] σ post) (hdc : Nat.blt dc d = true) (h8 : Nat.ble (rest.map fun v => v.category).sum 8 = true) (kk : ∀ (r : Int) (σ' : Sto), post r σ' → V K E Mi (pc + 3) L (.int (i32 r) :: rest) σ') : V K E Mi pc L (a2 :: a1 :: .ref (kA K 0) :: rest) σ :=
  V_callI hE (run_V (k := 0) (n := 2) (As := [a1, a2]) hE rfl rfl (by rw [ho]; exact tw_ml_X4_93) tw_ins_X4_refusalOfLine tw_sel_X4_refusalOfLine tw_ini_X4 tw_cod_X4_refusalOfLine nm_X4_refusalOfLine hdc rfl h8 hc hd) kk
theorem cf_X4_93 {K : Ctx} {E : ME} {Mi : MI} {d dc pc : Nat} {L : List (Option Value)} {rest : List Value} {σ : Sto} {a1 a2 : Value} {R0 : Int} {S : Sto} (hE : Ok K E Mi d) (ho : Mi.1.cls = RX4) (hd : decode Mi.2.1 pc = .ok (.invokevirtual 93, 3)) (hc : CtI K mX4_refusalOfLine dc [.ref (kA K 0), a1, a2] σ (fun r σ' => r = R0 ∧ σ' = S)) (hdc : Nat.blt dc d = true) (h8 : Nat.ble (rest.map fun v => v.category).sum 8 = true) (kk : V K E Mi (pc + 3) L (.int (i32 R0) :: rest) S) : V K E Mi pc L (a2 :: a1 :: .ref (kA K 0) :: rest) σ :=
  cl_X4_93 hE ho hd hc hdc h8 (fun _ _ h => by rw [h.1, h.2]; exact kk)
theorem nm_X4_takeLine : NmOk mX4_takeLine 2 := ⟨⟨by decide +kernel, by decide +kernel, by decide +kernel⟩, by decide⟩
theorem cl_X4_96 {K : Ctx} {E : ME} {Mi : MI} {d dc pc : Nat} {L : List (Option Value)} {rest : List Value} {σ : Sto} {a1 a2 : Value} {post : Sto → Prop} (hE : Ok K E Mi d) (ho : Mi.1.cls = RX4) (hd : decode Mi.2.1 pc = .ok (.invokevirtual 96, 3)) (hc : CtV K mX4_takeLine dc [.ref (kA K 0), a1, a2] σ post) (hdc : Nat.blt dc d = true) (h8 : Nat.ble (rest.map fun v => v.category).sum 8 = true) (kk : ∀ σ' : Sto, post σ' → V K E Mi (pc + 3) L rest σ') : V K E Mi pc L (a2 :: a1 :: .ref (kA K 0) :: rest) σ :=
  V_callV hE (run_V (k := 0) (n := 2) (As := [a1, a2]) hE rfl rfl (by rw [ho]; exact tw_ml_X4_96) tw_ins_X4_takeLine tw_sel_X4_takeLine tw_ini_X4 tw_cod_X4_takeLine nm_X4_takeLine hdc rfl h8 hc hd) kk
theorem cf_X4_96 {K : Ctx} {E : ME} {Mi : MI} {d dc pc : Nat} {L : List (Option Value)} {rest : List Value} {σ : Sto} {a1 a2 : Value} {S : Sto} (hE : Ok K E Mi d) (ho : Mi.1.cls = RX4) (hd : decode Mi.2.1 pc = .ok (.invokevirtual 96, 3)) (hc : CtV K mX4_takeLine dc [.ref (kA K 0), a1, a2] σ (fun σ' => σ' = S)) (hdc : Nat.blt dc d = true) (h8 : Nat.ble (rest.map fun v => v.category).sum 8 = true) (kk : V K E Mi (pc + 3) L rest S) : V K E Mi pc L (a2 :: a1 :: .ref (kA K 0) :: rest) σ :=
  cl_X4_96 hE ho hd hc hdc h8 (fun _ h => h ▸ kk)
theorem cl_X4_103 {K : Ctx} {E : ME} {Mi : MI} {d dc pc : Nat} {L : List (Option Value)} {rest : List Value} {σ : Sto} {a1 : Value} {post : Int → Sto → Prop} (hE : Ok K E Mi d) (ho : Mi.1.cls = RX4) (hd : decode Mi.2.1 pc = .ok (.invokevirtual 103, 3)) (hc : CtI K mX3_bendAt dc [.ref (kA K 2), a1] σ post) (hdc : Nat.blt dc d = true) (h8 : Nat.ble (rest.map fun v => v.category).sum 8 = true) (kk : ∀ (r : Int) (σ' : Sto), post r σ' → V K E Mi (pc + 3) L (.int (i32 r) :: rest) σ') : V K E Mi pc L (a1 :: .ref (kA K 2) :: rest) σ :=
  V_callI hE (run_VN (k := 2) (n := 1) (As := [a1]) hE rfl rfl (by rw [ho]; exact nw_ml_X4_103) tw_ins_X3_bendAt tw_sel_X3_bendAt tw_ini_X3 tw_cod_X3_bendAt nm_X3_bendAt hdc rfl h8 hc hd) kk
theorem cf_X4_103 {K : Ctx} {E : ME} {Mi : MI} {d dc pc : Nat} {L : List (Option Value)} {rest : List Value} {σ : Sto} {a1 : Value} {R0 : Int} {S : Sto} (hE : Ok K E Mi d) (ho : Mi.1.cls = RX4) (hd : decode Mi.2.1 pc = .ok (.invokevirtual 103, 3)) (hc : CtI K mX3_bendAt dc [.ref (kA K 2), a1] σ (fun r σ' => r = R0 ∧ σ' = S)) (hdc : Nat.blt dc d = true) (h8 : Nat.ble (rest.map fun v => v.category).sum 8 = true) (kk : V K E Mi (pc + 3) L (.int (i32 R0) :: rest) S) : V K E Mi pc L (a1 :: .ref (kA K 2) :: rest) σ :=
  cl_X4_103 hE ho hd hc hdc h8 (fun _ _ h => by rw [h.1, h.2]; exact kk)
theorem cl_X4_106 {K : Ctx} {E : ME} {Mi : MI} {d dc pc : Nat} {L : List (Option Value)} {rest : List Value} {σ : Sto} {a1 : Value} {post : Int → Sto → Prop} (hE : Ok K E Mi d) (ho : Mi.1.cls = RX4) (hd : decode Mi.2.1 pc = .ok (.invokevirtual 106, 3)) (hc : CtI K mX3_jumpAt dc [.ref (kA K 2), a1] σ post) (hdc : Nat.blt dc d = true) (h8 : Nat.ble (rest.map fun v => v.category).sum 8 = true) (kk : ∀ (r : Int) (σ' : Sto), post r σ' → V K E Mi (pc + 3) L (.int (i32 r) :: rest) σ') : V K E Mi pc L (a1 :: .ref (kA K 2) :: rest) σ :=
  V_callI hE (run_VN (k := 2) (n := 1) (As := [a1]) hE rfl rfl (by rw [ho]; exact nw_ml_X4_106) tw_ins_X3_jumpAt tw_sel_X3_jumpAt tw_ini_X3 tw_cod_X3_jumpAt nm_X3_jumpAt hdc rfl h8 hc hd) kk
theorem cf_X4_106 {K : Ctx} {E : ME} {Mi : MI} {d dc pc : Nat} {L : List (Option Value)} {rest : List Value} {σ : Sto} {a1 : Value} {R0 : Int} {S : Sto} (hE : Ok K E Mi d) (ho : Mi.1.cls = RX4) (hd : decode Mi.2.1 pc = .ok (.invokevirtual 106, 3)) (hc : CtI K mX3_jumpAt dc [.ref (kA K 2), a1] σ (fun r σ' => r = R0 ∧ σ' = S)) (hdc : Nat.blt dc d = true) (h8 : Nat.ble (rest.map fun v => v.category).sum 8 = true) (kk : V K E Mi (pc + 3) L (.int (i32 R0) :: rest) S) : V K E Mi pc L (a1 :: .ref (kA K 2) :: rest) σ :=
  cl_X4_106 hE ho hd hc hdc h8 (fun _ _ h => by rw [h.1, h.2]; exact kk)
theorem nm_X0_linesOf : NmOk mX0_linesOf 1 := ⟨⟨by decide +kernel, by decide +kernel, by decide +kernel⟩, by decide⟩
theorem cl_X4_109 {K : Ctx} {E : ME} {Mi : MI} {d dc pc : Nat} {L : List (Option Value)} {rest : List Value} {σ : Sto} {a1 : Value} {post : Int → Sto → Prop} (hE : Ok K E Mi d) (ho : Mi.1.cls = RX4) (hd : decode Mi.2.1 pc = .ok (.invokevirtual 109, 3)) (hc : CtI K mX0_linesOf dc [.ref (kA K 1), a1] σ post) (hdc : Nat.blt dc d = true) (h8 : Nat.ble (rest.map fun v => v.category).sum 8 = true) (kk : ∀ (r : Int) (σ' : Sto), post r σ' → V K E Mi (pc + 3) L (.int (i32 r) :: rest) σ') : V K E Mi pc L (a1 :: .ref (kA K 1) :: rest) σ :=
  V_callI hE (run_VN (k := 1) (n := 1) (As := [a1]) hE rfl rfl (by rw [ho]; exact nw_ml_X4_109) tw_ins_X0_linesOf tw_sel_X0_linesOf tw_ini_X0 tw_cod_X0_linesOf nm_X0_linesOf hdc rfl h8 hc hd) kk
theorem cf_X4_109 {K : Ctx} {E : ME} {Mi : MI} {d dc pc : Nat} {L : List (Option Value)} {rest : List Value} {σ : Sto} {a1 : Value} {R0 : Int} {S : Sto} (hE : Ok K E Mi d) (ho : Mi.1.cls = RX4) (hd : decode Mi.2.1 pc = .ok (.invokevirtual 109, 3)) (hc : CtI K mX0_linesOf dc [.ref (kA K 1), a1] σ (fun r σ' => r = R0 ∧ σ' = S)) (hdc : Nat.blt dc d = true) (h8 : Nat.ble (rest.map fun v => v.category).sum 8 = true) (kk : V K E Mi (pc + 3) L (.int (i32 R0) :: rest) S) : V K E Mi pc L (a1 :: .ref (kA K 1) :: rest) σ :=
  cl_X4_109 hE ho hd hc hdc h8 (fun _ _ h => by rw [h.1, h.2]; exact kk)
theorem nm_X3_farthestJump : NmOk mX3_farthestJump 0 := ⟨⟨by decide +kernel, by decide +kernel, by decide +kernel⟩, by decide⟩
theorem cl_X4_112 {K : Ctx} {E : ME} {Mi : MI} {d dc pc : Nat} {L : List (Option Value)} {rest : List Value} {σ : Sto} {post : Int → Sto → Prop} (hE : Ok K E Mi d) (ho : Mi.1.cls = RX4) (hd : decode Mi.2.1 pc = .ok (.invokevirtual 112, 3)) (hc : CtI K mX3_farthestJump dc [.ref (kA K 2)] σ post) (hdc : Nat.blt dc d = true) (h8 : Nat.ble (rest.map fun v => v.category).sum 8 = true) (kk : ∀ (r : Int) (σ' : Sto), post r σ' → V K E Mi (pc + 3) L (.int (i32 r) :: rest) σ') : V K E Mi pc L (.ref (kA K 2) :: rest) σ :=
  V_callI hE (run_VN (k := 2) (n := 0) (As := []) hE rfl rfl (by rw [ho]; exact nw_ml_X4_112) tw_ins_X3_farthestJump tw_sel_X3_farthestJump tw_ini_X3 tw_cod_X3_farthestJump nm_X3_farthestJump hdc rfl h8 hc hd) kk
theorem cf_X4_112 {K : Ctx} {E : ME} {Mi : MI} {d dc pc : Nat} {L : List (Option Value)} {rest : List Value} {σ : Sto} {R0 : Int} {S : Sto} (hE : Ok K E Mi d) (ho : Mi.1.cls = RX4) (hd : decode Mi.2.1 pc = .ok (.invokevirtual 112, 3)) (hc : CtI K mX3_farthestJump dc [.ref (kA K 2)] σ (fun r σ' => r = R0 ∧ σ' = S)) (hdc : Nat.blt dc d = true) (h8 : Nat.ble (rest.map fun v => v.category).sum 8 = true) (kk : V K E Mi (pc + 3) L (.int (i32 R0) :: rest) S) : V K E Mi pc L (.ref (kA K 2) :: rest) σ :=
  cl_X4_112 hE ho hd hc hdc h8 (fun _ _ h => by rw [h.1, h.2]; exact kk)
theorem nm_X3_firstJumpThatFar : NmOk mX3_firstJumpThatFar 1 := ⟨⟨by decide +kernel, by decide +kernel, by decide +kernel⟩, by decide⟩
theorem cl_X4_116 {K : Ctx} {E : ME} {Mi : MI} {d dc pc : Nat} {L : List (Option Value)} {rest : List Value} {σ : Sto} {a1 : Value} {post : Int → Sto → Prop} (hE : Ok K E Mi d) (ho : Mi.1.cls = RX4) (hd : decode Mi.2.1 pc = .ok (.invokevirtual 116, 3)) (hc : CtI K mX3_firstJumpThatFar dc [.ref (kA K 2), a1] σ post) (hdc : Nat.blt dc d = true) (h8 : Nat.ble (rest.map fun v => v.category).sum 8 = true) (kk : ∀ (r : Int) (σ' : Sto), post r σ' → V K E Mi (pc + 3) L (.int (i32 r) :: rest) σ') : V K E Mi pc L (a1 :: .ref (kA K 2) :: rest) σ :=
  V_callI hE (run_VN (k := 2) (n := 1) (As := [a1]) hE rfl rfl (by rw [ho]; exact nw_ml_X4_116) tw_ins_X3_firstJumpThatFar tw_sel_X3_firstJumpThatFar tw_ini_X3 tw_cod_X3_firstJumpThatFar nm_X3_firstJumpThatFar hdc rfl h8 hc hd) kk
theorem cf_X4_116 {K : Ctx} {E : ME} {Mi : MI} {d dc pc : Nat} {L : List (Option Value)} {rest : List Value} {σ : Sto} {a1 : Value} {R0 : Int} {S : Sto} (hE : Ok K E Mi d) (ho : Mi.1.cls = RX4) (hd : decode Mi.2.1 pc = .ok (.invokevirtual 116, 3)) (hc : CtI K mX3_firstJumpThatFar dc [.ref (kA K 2), a1] σ (fun r σ' => r = R0 ∧ σ' = S)) (hdc : Nat.blt dc d = true) (h8 : Nat.ble (rest.map fun v => v.category).sum 8 = true) (kk : V K E Mi (pc + 3) L (.int (i32 R0) :: rest) S) : V K E Mi pc L (a1 :: .ref (kA K 2) :: rest) σ :=
  cl_X4_116 hE ho hd hc hdc h8 (fun _ _ h => by rw [h.1, h.2]; exact kk)
theorem nm_X3_countJumpsBeyond : NmOk mX3_countJumpsBeyond 1 := ⟨⟨by decide +kernel, by decide +kernel, by decide +kernel⟩, by decide⟩
theorem cl_X4_119 {K : Ctx} {E : ME} {Mi : MI} {d dc pc : Nat} {L : List (Option Value)} {rest : List Value} {σ : Sto} {a1 : Value} {post : Int → Sto → Prop} (hE : Ok K E Mi d) (ho : Mi.1.cls = RX4) (hd : decode Mi.2.1 pc = .ok (.invokevirtual 119, 3)) (hc : CtI K mX3_countJumpsBeyond dc [.ref (kA K 2), a1] σ post) (hdc : Nat.blt dc d = true) (h8 : Nat.ble (rest.map fun v => v.category).sum 8 = true) (kk : ∀ (r : Int) (σ' : Sto), post r σ' → V K E Mi (pc + 3) L (.int (i32 r) :: rest) σ') : V K E Mi pc L (a1 :: .ref (kA K 2) :: rest) σ :=
  V_callI hE (run_VN (k := 2) (n := 1) (As := [a1]) hE rfl rfl (by rw [ho]; exact nw_ml_X4_119) tw_ins_X3_countJumpsBeyond tw_sel_X3_countJumpsBeyond tw_ini_X3 tw_cod_X3_countJumpsBeyond nm_X3_countJumpsBeyond hdc rfl h8 hc hd) kk
theorem cf_X4_119 {K : Ctx} {E : ME} {Mi : MI} {d dc pc : Nat} {L : List (Option Value)} {rest : List Value} {σ : Sto} {a1 : Value} {R0 : Int} {S : Sto} (hE : Ok K E Mi d) (ho : Mi.1.cls = RX4) (hd : decode Mi.2.1 pc = .ok (.invokevirtual 119, 3)) (hc : CtI K mX3_countJumpsBeyond dc [.ref (kA K 2), a1] σ (fun r σ' => r = R0 ∧ σ' = S)) (hdc : Nat.blt dc d = true) (h8 : Nat.ble (rest.map fun v => v.category).sum 8 = true) (kk : V K E Mi (pc + 3) L (.int (i32 R0) :: rest) S) : V K E Mi pc L (a1 :: .ref (kA K 2) :: rest) σ :=
  cl_X4_119 hE ho hd hc hdc h8 (fun _ _ h => by rw [h.1, h.2]; exact kk)
theorem cl_X4_122 {K : Ctx} {E : ME} {Mi : MI} {d dc pc : Nat} {L : List (Option Value)} {rest : List Value} {σ : Sto} {a1 : Value} {post : Int → Sto → Prop} (hE : Ok K E Mi d) (ho : Mi.1.cls = RX4) (hd : decode Mi.2.1 pc = .ok (.invokevirtual 122, 3)) (hc : CtI K mX0_pointsOf dc [.ref (kA K 1), a1] σ post) (hdc : Nat.blt dc d = true) (h8 : Nat.ble (rest.map fun v => v.category).sum 8 = true) (kk : ∀ (r : Int) (σ' : Sto), post r σ' → V K E Mi (pc + 3) L (.int (i32 r) :: rest) σ') : V K E Mi pc L (a1 :: .ref (kA K 1) :: rest) σ :=
  V_callI hE (run_VN (k := 1) (n := 1) (As := [a1]) hE rfl rfl (by rw [ho]; exact nw_ml_X4_122) tw_ins_X0_pointsOf tw_sel_X0_pointsOf tw_ini_X0 tw_cod_X0_pointsOf nm_X0_pointsOf hdc rfl h8 hc hd) kk
theorem cf_X4_122 {K : Ctx} {E : ME} {Mi : MI} {d dc pc : Nat} {L : List (Option Value)} {rest : List Value} {σ : Sto} {a1 : Value} {R0 : Int} {S : Sto} (hE : Ok K E Mi d) (ho : Mi.1.cls = RX4) (hd : decode Mi.2.1 pc = .ok (.invokevirtual 122, 3)) (hc : CtI K mX0_pointsOf dc [.ref (kA K 1), a1] σ (fun r σ' => r = R0 ∧ σ' = S)) (hdc : Nat.blt dc d = true) (h8 : Nat.ble (rest.map fun v => v.category).sum 8 = true) (kk : V K E Mi (pc + 3) L (.int (i32 R0) :: rest) S) : V K E Mi pc L (a1 :: .ref (kA K 1) :: rest) σ :=
  cl_X4_122 hE ho hd hc hdc h8 (fun _ _ h => by rw [h.1, h.2]; exact kk)
theorem nm_X4_seekLeast : NmOk mX4_seekLeast 2 := ⟨⟨by decide +kernel, by decide +kernel, by decide +kernel⟩, by decide⟩
theorem cl_X4_125 {K : Ctx} {E : ME} {Mi : MI} {d dc pc : Nat} {L : List (Option Value)} {rest : List Value} {σ : Sto} {a1 a2 : Value} {post : Int → Sto → Prop} (hE : Ok K E Mi d) (ho : Mi.1.cls = RX4) (hd : decode Mi.2.1 pc = .ok (.invokevirtual 125, 3)) (hc : CtI K mX4_seekLeast dc [.ref (kA K 0), a1, a2] σ post) (hdc : Nat.blt dc d = true) (h8 : Nat.ble (rest.map fun v => v.category).sum 8 = true) (kk : ∀ (r : Int) (σ' : Sto), post r σ' → V K E Mi (pc + 3) L (.int (i32 r) :: rest) σ') : V K E Mi pc L (a2 :: a1 :: .ref (kA K 0) :: rest) σ :=
  V_callI hE (run_V (k := 0) (n := 2) (As := [a1, a2]) hE rfl rfl (by rw [ho]; exact tw_ml_X4_125) tw_ins_X4_seekLeast tw_sel_X4_seekLeast tw_ini_X4 tw_cod_X4_seekLeast nm_X4_seekLeast hdc rfl h8 hc hd) kk
theorem cf_X4_125 {K : Ctx} {E : ME} {Mi : MI} {d dc pc : Nat} {L : List (Option Value)} {rest : List Value} {σ : Sto} {a1 a2 : Value} {R0 : Int} {S : Sto} (hE : Ok K E Mi d) (ho : Mi.1.cls = RX4) (hd : decode Mi.2.1 pc = .ok (.invokevirtual 125, 3)) (hc : CtI K mX4_seekLeast dc [.ref (kA K 0), a1, a2] σ (fun r σ' => r = R0 ∧ σ' = S)) (hdc : Nat.blt dc d = true) (h8 : Nat.ble (rest.map fun v => v.category).sum 8 = true) (kk : V K E Mi (pc + 3) L (.int (i32 R0) :: rest) S) : V K E Mi pc L (a2 :: a1 :: .ref (kA K 0) :: rest) σ :=
  cl_X4_125 hE ho hd hc hdc h8 (fun _ _ h => by rw [h.1, h.2]; exact kk)
theorem nm_X2_moveOf : NmOk mX2_moveOf 1 := ⟨⟨by decide +kernel, by decide +kernel, by decide +kernel⟩, by decide⟩
theorem cl_X4_128 {K : Ctx} {E : ME} {Mi : MI} {d dc pc : Nat} {L : List (Option Value)} {rest : List Value} {σ : Sto} {a1 : Value} {post : Int → Sto → Prop} (hE : Ok K E Mi d) (ho : Mi.1.cls = RX4) (hd : decode Mi.2.1 pc = .ok (.invokevirtual 128, 3)) (hc : CtI K mX2_moveOf dc [.ref (kA K 3), a1] σ post) (hdc : Nat.blt dc d = true) (h8 : Nat.ble (rest.map fun v => v.category).sum 8 = true) (kk : ∀ (r : Int) (σ' : Sto), post r σ' → V K E Mi (pc + 3) L (.int (i32 r) :: rest) σ') : V K E Mi pc L (a1 :: .ref (kA K 3) :: rest) σ :=
  V_callI hE (run_VN (k := 3) (n := 1) (As := [a1]) hE rfl rfl (by rw [ho]; exact nw_ml_X4_128) tw_ins_X2_moveOf tw_sel_X2_moveOf tw_ini_X2 tw_cod_X2_moveOf nm_X2_moveOf hdc rfl h8 hc hd) kk
theorem cf_X4_128 {K : Ctx} {E : ME} {Mi : MI} {d dc pc : Nat} {L : List (Option Value)} {rest : List Value} {σ : Sto} {a1 : Value} {R0 : Int} {S : Sto} (hE : Ok K E Mi d) (ho : Mi.1.cls = RX4) (hd : decode Mi.2.1 pc = .ok (.invokevirtual 128, 3)) (hc : CtI K mX2_moveOf dc [.ref (kA K 3), a1] σ (fun r σ' => r = R0 ∧ σ' = S)) (hdc : Nat.blt dc d = true) (h8 : Nat.ble (rest.map fun v => v.category).sum 8 = true) (kk : V K E Mi (pc + 3) L (.int (i32 R0) :: rest) S) : V K E Mi pc L (a1 :: .ref (kA K 3) :: rest) σ :=
  cl_X4_128 hE ho hd hc hdc h8 (fun _ _ h => by rw [h.1, h.2]; exact kk)
theorem nm_X4_addMoves : NmOk mX4_addMoves 2 := ⟨⟨by decide +kernel, by decide +kernel, by decide +kernel⟩, by decide⟩
theorem cl_X4_131 {K : Ctx} {E : ME} {Mi : MI} {d dc pc : Nat} {L : List (Option Value)} {rest : List Value} {σ : Sto} {a1 a2 : Value} {post : Sto → Prop} (hE : Ok K E Mi d) (ho : Mi.1.cls = RX4) (hd : decode Mi.2.1 pc = .ok (.invokevirtual 131, 3)) (hc : CtV K mX4_addMoves dc [.ref (kA K 0), a1, a2] σ post) (hdc : Nat.blt dc d = true) (h8 : Nat.ble (rest.map fun v => v.category).sum 8 = true) (kk : ∀ σ' : Sto, post σ' → V K E Mi (pc + 3) L rest σ') : V K E Mi pc L (a2 :: a1 :: .ref (kA K 0) :: rest) σ :=
  V_callV hE (run_V (k := 0) (n := 2) (As := [a1, a2]) hE rfl rfl (by rw [ho]; exact tw_ml_X4_131) tw_ins_X4_addMoves tw_sel_X4_addMoves tw_ini_X4 tw_cod_X4_addMoves nm_X4_addMoves hdc rfl h8 hc hd) kk
theorem cf_X4_131 {K : Ctx} {E : ME} {Mi : MI} {d dc pc : Nat} {L : List (Option Value)} {rest : List Value} {σ : Sto} {a1 a2 : Value} {S : Sto} (hE : Ok K E Mi d) (ho : Mi.1.cls = RX4) (hd : decode Mi.2.1 pc = .ok (.invokevirtual 131, 3)) (hc : CtV K mX4_addMoves dc [.ref (kA K 0), a1, a2] σ (fun σ' => σ' = S)) (hdc : Nat.blt dc d = true) (h8 : Nat.ble (rest.map fun v => v.category).sum 8 = true) (kk : V K E Mi (pc + 3) L rest S) : V K E Mi pc L (a2 :: a1 :: .ref (kA K 0) :: rest) σ :=
  cl_X4_131 hE ho hd hc hdc h8 (fun _ h => h ▸ kk)
theorem nm_X4_roundChanges : NmOk mX4_roundChanges 0 := ⟨⟨by decide +kernel, by decide +kernel, by decide +kernel⟩, by decide⟩
theorem cl_X4_134 {K : Ctx} {E : ME} {Mi : MI} {d dc pc : Nat} {L : List (Option Value)} {rest : List Value} {σ : Sto} {post : Int → Sto → Prop} (hE : Ok K E Mi d) (ho : Mi.1.cls = RX4) (hd : decode Mi.2.1 pc = .ok (.invokevirtual 134, 3)) (hc : CtI K mX4_roundChanges dc [.ref (kA K 0)] σ post) (hdc : Nat.blt dc d = true) (h8 : Nat.ble (rest.map fun v => v.category).sum 8 = true) (kk : ∀ (r : Int) (σ' : Sto), post r σ' → V K E Mi (pc + 3) L (.int (i32 r) :: rest) σ') : V K E Mi pc L (.ref (kA K 0) :: rest) σ :=
  V_callI hE (run_V (k := 0) (n := 0) (As := []) hE rfl rfl (by rw [ho]; exact tw_ml_X4_134) tw_ins_X4_roundChanges tw_sel_X4_roundChanges tw_ini_X4 tw_cod_X4_roundChanges nm_X4_roundChanges hdc rfl h8 hc hd) kk
theorem cf_X4_134 {K : Ctx} {E : ME} {Mi : MI} {d dc pc : Nat} {L : List (Option Value)} {rest : List Value} {σ : Sto} {R0 : Int} {S : Sto} (hE : Ok K E Mi d) (ho : Mi.1.cls = RX4) (hd : decode Mi.2.1 pc = .ok (.invokevirtual 134, 3)) (hc : CtI K mX4_roundChanges dc [.ref (kA K 0)] σ (fun r σ' => r = R0 ∧ σ' = S)) (hdc : Nat.blt dc d = true) (h8 : Nat.ble (rest.map fun v => v.category).sum 8 = true) (kk : V K E Mi (pc + 3) L (.int (i32 R0) :: rest) S) : V K E Mi pc L (.ref (kA K 0) :: rest) σ :=
  cl_X4_134 hE ho hd hc hdc h8 (fun _ _ h => by rw [h.1, h.2]; exact kk)
theorem nm_X4_areaInSixths : NmOk mX4_areaInSixths 2 := ⟨⟨by decide +kernel, by decide +kernel, by decide +kernel⟩, by decide⟩
theorem cl_X4_143 {K : Ctx} {E : ME} {Mi : MI} {d dc pc : Nat} {L : List (Option Value)} {rest : List Value} {σ : Sto} {a1 a2 : Value} {post : Int → Sto → Prop} (hE : Ok K E Mi d) (ho : Mi.1.cls = RX4) (hd : decode Mi.2.1 pc = .ok (.invokevirtual 143, 3)) (hc : CtI K mX4_areaInSixths dc [.ref (kA K 0), a1, a2] σ post) (hdc : Nat.blt dc d = true) (h8 : Nat.ble (rest.map fun v => v.category).sum 8 = true) (kk : ∀ (r : Int) (σ' : Sto), post r σ' → V K E Mi (pc + 3) L (.int (i32 r) :: rest) σ') : V K E Mi pc L (a2 :: a1 :: .ref (kA K 0) :: rest) σ :=
  V_callI hE (run_V (k := 0) (n := 2) (As := [a1, a2]) hE rfl rfl (by rw [ho]; exact tw_ml_X4_143) tw_ins_X4_areaInSixths tw_sel_X4_areaInSixths tw_ini_X4 tw_cod_X4_areaInSixths nm_X4_areaInSixths hdc rfl h8 hc hd) kk
theorem cf_X4_143 {K : Ctx} {E : ME} {Mi : MI} {d dc pc : Nat} {L : List (Option Value)} {rest : List Value} {σ : Sto} {a1 a2 : Value} {R0 : Int} {S : Sto} (hE : Ok K E Mi d) (ho : Mi.1.cls = RX4) (hd : decode Mi.2.1 pc = .ok (.invokevirtual 143, 3)) (hc : CtI K mX4_areaInSixths dc [.ref (kA K 0), a1, a2] σ (fun r σ' => r = R0 ∧ σ' = S)) (hdc : Nat.blt dc d = true) (h8 : Nat.ble (rest.map fun v => v.category).sum 8 = true) (kk : V K E Mi (pc + 3) L (.int (i32 R0) :: rest) S) : V K E Mi pc L (a2 :: a1 :: .ref (kA K 0) :: rest) σ :=
  cl_X4_143 hE ho hd hc hdc h8 (fun _ _ h => by rw [h.1, h.2]; exact kk)
theorem nm_X4_toldShare : NmOk mX4_toldShare 3 := ⟨⟨by decide +kernel, by decide +kernel, by decide +kernel⟩, by decide⟩
theorem cl_X4_148 {K : Ctx} {E : ME} {Mi : MI} {d dc pc : Nat} {L : List (Option Value)} {rest : List Value} {σ : Sto} {a1 a2 a3 : Value} {post : Int → Sto → Prop} (hE : Ok K E Mi d) (ho : Mi.1.cls = RX4) (hd : decode Mi.2.1 pc = .ok (.invokestatic 148, 3)) (hc : CtL K mX4_toldShare dc [a1, a2, a3] σ post) (hdc : Nat.blt dc d = true) (h8 : Nat.ble (rest.map fun v => v.category).sum 8 = true) (kk : ∀ (r : Int) (σ' : Sto), post r σ' → V K E Mi (pc + 3) L (.long (i64 r) :: rest) σ') : V K E Mi pc L (a3 :: a2 :: a1 :: rest) σ :=
  V_callL hE (run_S (n := 3) (As := [a1, a2, a3]) hE (by rw [ho]; exact tw_ml_X4_148) tw_sta_X4_toldShare tw_ini_X4 tw_cod_X4_toldShare nm_X4_toldShare hdc rfl h8 hc hd) kk
theorem cf_X4_148 {K : Ctx} {E : ME} {Mi : MI} {d dc pc : Nat} {L : List (Option Value)} {rest : List Value} {σ : Sto} {a1 a2 a3 : Value} {R0 : Int} {S : Sto} (hE : Ok K E Mi d) (ho : Mi.1.cls = RX4) (hd : decode Mi.2.1 pc = .ok (.invokestatic 148, 3)) (hc : CtL K mX4_toldShare dc [a1, a2, a3] σ (fun r σ' => r = R0 ∧ σ' = S)) (hdc : Nat.blt dc d = true) (h8 : Nat.ble (rest.map fun v => v.category).sum 8 = true) (kk : V K E Mi (pc + 3) L (.long (i64 R0) :: rest) S) : V K E Mi pc L (a3 :: a2 :: a1 :: rest) σ :=
  cl_X4_148 hE ho hd hc hdc h8 (fun _ _ h => by rw [h.1, h.2]; exact kk)
theorem nm_X4_sumInSixths : NmOk mX4_sumInSixths 2 := ⟨⟨by decide +kernel, by decide +kernel, by decide +kernel⟩, by decide⟩
theorem cl_X4_153 {K : Ctx} {E : ME} {Mi : MI} {d dc pc : Nat} {L : List (Option Value)} {rest : List Value} {σ : Sto} {a1 a2 : Value} {post : Int → Sto → Prop} (hE : Ok K E Mi d) (ho : Mi.1.cls = RX4) (hd : decode Mi.2.1 pc = .ok (.invokestatic 153, 3)) (hc : CtI K mX4_sumInSixths dc [a1, a2] σ post) (hdc : Nat.blt dc d = true) (h8 : Nat.ble (rest.map fun v => v.category).sum 8 = true) (kk : ∀ (r : Int) (σ' : Sto), post r σ' → V K E Mi (pc + 3) L (.int (i32 r) :: rest) σ') : V K E Mi pc L (a2 :: a1 :: rest) σ :=
  V_callI hE (run_S (n := 2) (As := [a1, a2]) hE (by rw [ho]; exact tw_ml_X4_153) tw_sta_X4_sumInSixths tw_ini_X4 tw_cod_X4_sumInSixths nm_X4_sumInSixths hdc rfl h8 hc hd) kk
theorem cf_X4_153 {K : Ctx} {E : ME} {Mi : MI} {d dc pc : Nat} {L : List (Option Value)} {rest : List Value} {σ : Sto} {a1 a2 : Value} {R0 : Int} {S : Sto} (hE : Ok K E Mi d) (ho : Mi.1.cls = RX4) (hd : decode Mi.2.1 pc = .ok (.invokestatic 153, 3)) (hc : CtI K mX4_sumInSixths dc [a1, a2] σ (fun r σ' => r = R0 ∧ σ' = S)) (hdc : Nat.blt dc d = true) (h8 : Nat.ble (rest.map fun v => v.category).sum 8 = true) (kk : V K E Mi (pc + 3) L (.int (i32 R0) :: rest) S) : V K E Mi pc L (a2 :: a1 :: rest) σ :=
  cl_X4_153 hE ho hd hc hdc h8 (fun _ _ h => by rw [h.1, h.2]; exact kk)
theorem cl_X4_162 {K : Ctx} {E : ME} {Mi : MI} {d dc pc : Nat} {L : List (Option Value)} {rest : List Value} {σ : Sto} {a1 a2 a3 : Value} {post : Sto → Prop} (hE : Ok K E Mi d) (ho : Mi.1.cls = RX4) (hd : decode Mi.2.1 pc = .ok (.invokevirtual 162, 3)) (hc : CtV K mX1_measure dc [.ref (kA K 4), a1, a2, a3] σ post) (hdc : Nat.blt dc d = true) (h8 : Nat.ble (rest.map fun v => v.category).sum 8 = true) (kk : ∀ σ' : Sto, post σ' → V K E Mi (pc + 3) L rest σ') : V K E Mi pc L (a3 :: a2 :: a1 :: .ref (kA K 4) :: rest) σ :=
  V_callV hE (run_VN (k := 4) (n := 3) (As := [a1, a2, a3]) hE rfl rfl (by rw [ho]; exact nw_ml_X4_162) tw_ins_X1_measure tw_sel_X1_measure tw_ini_X1 tw_cod_X1_measure nm_X1_measure hdc rfl h8 hc hd) kk
theorem cf_X4_162 {K : Ctx} {E : ME} {Mi : MI} {d dc pc : Nat} {L : List (Option Value)} {rest : List Value} {σ : Sto} {a1 a2 a3 : Value} {S : Sto} (hE : Ok K E Mi d) (ho : Mi.1.cls = RX4) (hd : decode Mi.2.1 pc = .ok (.invokevirtual 162, 3)) (hc : CtV K mX1_measure dc [.ref (kA K 4), a1, a2, a3] σ (fun σ' => σ' = S)) (hdc : Nat.blt dc d = true) (h8 : Nat.ble (rest.map fun v => v.category).sum 8 = true) (kk : V K E Mi (pc + 3) L rest S) : V K E Mi pc L (a3 :: a2 :: a1 :: .ref (kA K 4) :: rest) σ :=
  cl_X4_162 hE ho hd hc hdc h8 (fun _ h => h ▸ kk)
theorem cl_X4_166 {K : Ctx} {E : ME} {Mi : MI} {d dc pc : Nat} {L : List (Option Value)} {rest : List Value} {σ : Sto} {a1 : Value} {post : Int → Sto → Prop} (hE : Ok K E Mi d) (ho : Mi.1.cls = RX4) (hd : decode Mi.2.1 pc = .ok (.invokevirtual 166, 3)) (hc : CtI K mX1_isThere dc [.ref (kA K 4), a1] σ post) (hdc : Nat.blt dc d = true) (h8 : Nat.ble (rest.map fun v => v.category).sum 8 = true) (kk : ∀ (r : Int) (σ' : Sto), post r σ' → V K E Mi (pc + 3) L (.int (i32 r) :: rest) σ') : V K E Mi pc L (a1 :: .ref (kA K 4) :: rest) σ :=
  V_callI hE (run_VN (k := 4) (n := 1) (As := [a1]) hE rfl rfl (by rw [ho]; exact nw_ml_X4_166) tw_ins_X1_isThere tw_sel_X1_isThere tw_ini_X1 tw_cod_X1_isThere nm_X1_isThere hdc rfl h8 hc hd) kk
theorem cf_X4_166 {K : Ctx} {E : ME} {Mi : MI} {d dc pc : Nat} {L : List (Option Value)} {rest : List Value} {σ : Sto} {a1 : Value} {R0 : Int} {S : Sto} (hE : Ok K E Mi d) (ho : Mi.1.cls = RX4) (hd : decode Mi.2.1 pc = .ok (.invokevirtual 166, 3)) (hc : CtI K mX1_isThere dc [.ref (kA K 4), a1] σ (fun r σ' => r = R0 ∧ σ' = S)) (hdc : Nat.blt dc d = true) (h8 : Nat.ble (rest.map fun v => v.category).sum 8 = true) (kk : V K E Mi (pc + 3) L (.int (i32 R0) :: rest) S) : V K E Mi pc L (a1 :: .ref (kA K 4) :: rest) σ :=
  cl_X4_166 hE ho hd hc hdc h8 (fun _ _ h => by rw [h.1, h.2]; exact kk)
theorem nm_X1_countBreaks : NmOk mX1_countBreaks 3 := ⟨⟨by decide +kernel, by decide +kernel, by decide +kernel⟩, by decide⟩
theorem cl_X4_177 {K : Ctx} {E : ME} {Mi : MI} {d dc pc : Nat} {L : List (Option Value)} {rest : List Value} {σ : Sto} {a1 a2 a3 : Value} {post : Int → Sto → Prop} (hE : Ok K E Mi d) (ho : Mi.1.cls = RX4) (hd : decode Mi.2.1 pc = .ok (.invokevirtual 177, 3)) (hc : CtI K mX1_countBreaks dc [.ref (kA K 4), a1, a2, a3] σ post) (hdc : Nat.blt dc d = true) (h8 : Nat.ble (rest.map fun v => v.category).sum 8 = true) (kk : ∀ (r : Int) (σ' : Sto), post r σ' → V K E Mi (pc + 3) L (.int (i32 r) :: rest) σ') : V K E Mi pc L (a3 :: a2 :: a1 :: .ref (kA K 4) :: rest) σ :=
  V_callI hE (run_VN (k := 4) (n := 3) (As := [a1, a2, a3]) hE rfl rfl (by rw [ho]; exact nw_ml_X4_177) tw_ins_X1_countBreaks tw_sel_X1_countBreaks tw_ini_X1 tw_cod_X1_countBreaks nm_X1_countBreaks hdc rfl h8 hc hd) kk
theorem cf_X4_177 {K : Ctx} {E : ME} {Mi : MI} {d dc pc : Nat} {L : List (Option Value)} {rest : List Value} {σ : Sto} {a1 a2 a3 : Value} {R0 : Int} {S : Sto} (hE : Ok K E Mi d) (ho : Mi.1.cls = RX4) (hd : decode Mi.2.1 pc = .ok (.invokevirtual 177, 3)) (hc : CtI K mX1_countBreaks dc [.ref (kA K 4), a1, a2, a3] σ (fun r σ' => r = R0 ∧ σ' = S)) (hdc : Nat.blt dc d = true) (h8 : Nat.ble (rest.map fun v => v.category).sum 8 = true) (kk : V K E Mi (pc + 3) L (.int (i32 R0) :: rest) S) : V K E Mi pc L (a3 :: a2 :: a1 :: .ref (kA K 4) :: rest) σ :=
  cl_X4_177 hE ho hd hc hdc h8 (fun _ _ h => by rw [h.1, h.2]; exact kk)
theorem nm_X0_broadest : NmOk mX0_broadest 0 := ⟨⟨by decide +kernel, by decide +kernel, by decide +kernel⟩, by decide⟩
theorem cl_X4_181 {K : Ctx} {E : ME} {Mi : MI} {d dc pc : Nat} {L : List (Option Value)} {rest : List Value} {σ : Sto} {post : Int → Sto → Prop} (hE : Ok K E Mi d) (ho : Mi.1.cls = RX4) (hd : decode Mi.2.1 pc = .ok (.invokevirtual 181, 3)) (hc : CtI K mX0_broadest dc [.ref (kA K 1)] σ post) (hdc : Nat.blt dc d = true) (h8 : Nat.ble (rest.map fun v => v.category).sum 8 = true) (kk : ∀ (r : Int) (σ' : Sto), post r σ' → V K E Mi (pc + 3) L (.int (i32 r) :: rest) σ') : V K E Mi pc L (.ref (kA K 1) :: rest) σ :=
  V_callI hE (run_VN (k := 1) (n := 0) (As := []) hE rfl rfl (by rw [ho]; exact nw_ml_X4_181) tw_ins_X0_broadest tw_sel_X0_broadest tw_ini_X0 tw_cod_X0_broadest nm_X0_broadest hdc rfl h8 hc hd) kk
theorem cf_X4_181 {K : Ctx} {E : ME} {Mi : MI} {d dc pc : Nat} {L : List (Option Value)} {rest : List Value} {σ : Sto} {R0 : Int} {S : Sto} (hE : Ok K E Mi d) (ho : Mi.1.cls = RX4) (hd : decode Mi.2.1 pc = .ok (.invokevirtual 181, 3)) (hc : CtI K mX0_broadest dc [.ref (kA K 1)] σ (fun r σ' => r = R0 ∧ σ' = S)) (hdc : Nat.blt dc d = true) (h8 : Nat.ble (rest.map fun v => v.category).sum 8 = true) (kk : V K E Mi (pc + 3) L (.int (i32 R0) :: rest) S) : V K E Mi pc L (.ref (kA K 1) :: rest) σ :=
  cl_X4_181 hE ho hd hc hdc h8 (fun _ _ h => by rw [h.1, h.2]; exact kk)
theorem nm_X0_countHeld : NmOk mX0_countHeld 0 := ⟨⟨by decide +kernel, by decide +kernel, by decide +kernel⟩, by decide⟩
theorem cl_X4_187 {K : Ctx} {E : ME} {Mi : MI} {d dc pc : Nat} {L : List (Option Value)} {rest : List Value} {σ : Sto} {post : Int → Sto → Prop} (hE : Ok K E Mi d) (ho : Mi.1.cls = RX4) (hd : decode Mi.2.1 pc = .ok (.invokevirtual 187, 3)) (hc : CtI K mX0_countHeld dc [.ref (kA K 1)] σ post) (hdc : Nat.blt dc d = true) (h8 : Nat.ble (rest.map fun v => v.category).sum 8 = true) (kk : ∀ (r : Int) (σ' : Sto), post r σ' → V K E Mi (pc + 3) L (.int (i32 r) :: rest) σ') : V K E Mi pc L (.ref (kA K 1) :: rest) σ :=
  V_callI hE (run_VN (k := 1) (n := 0) (As := []) hE rfl rfl (by rw [ho]; exact nw_ml_X4_187) tw_ins_X0_countHeld tw_sel_X0_countHeld tw_ini_X0 tw_cod_X0_countHeld nm_X0_countHeld hdc rfl h8 hc hd) kk
theorem cf_X4_187 {K : Ctx} {E : ME} {Mi : MI} {d dc pc : Nat} {L : List (Option Value)} {rest : List Value} {σ : Sto} {R0 : Int} {S : Sto} (hE : Ok K E Mi d) (ho : Mi.1.cls = RX4) (hd : decode Mi.2.1 pc = .ok (.invokevirtual 187, 3)) (hc : CtI K mX0_countHeld dc [.ref (kA K 1)] σ (fun r σ' => r = R0 ∧ σ' = S)) (hdc : Nat.blt dc d = true) (h8 : Nat.ble (rest.map fun v => v.category).sum 8 = true) (kk : V K E Mi (pc + 3) L (.int (i32 R0) :: rest) S) : V K E Mi pc L (.ref (kA K 1) :: rest) σ :=
  cl_X4_187 hE ho hd hc hdc h8 (fun _ _ h => by rw [h.1, h.2]; exact kk)
theorem nm_X4_countUnfair : NmOk mX4_countUnfair 0 := ⟨⟨by decide +kernel, by decide +kernel, by decide +kernel⟩, by decide⟩
theorem cl_X4_190 {K : Ctx} {E : ME} {Mi : MI} {d dc pc : Nat} {L : List (Option Value)} {rest : List Value} {σ : Sto} {post : Int → Sto → Prop} (hE : Ok K E Mi d) (ho : Mi.1.cls = RX4) (hd : decode Mi.2.1 pc = .ok (.invokevirtual 190, 3)) (hc : CtI K mX4_countUnfair dc [.ref (kA K 0)] σ post) (hdc : Nat.blt dc d = true) (h8 : Nat.ble (rest.map fun v => v.category).sum 8 = true) (kk : ∀ (r : Int) (σ' : Sto), post r σ' → V K E Mi (pc + 3) L (.int (i32 r) :: rest) σ') : V K E Mi pc L (.ref (kA K 0) :: rest) σ :=
  V_callI hE (run_V (k := 0) (n := 0) (As := []) hE rfl rfl (by rw [ho]; exact tw_ml_X4_190) tw_ins_X4_countUnfair tw_sel_X4_countUnfair tw_ini_X4 tw_cod_X4_countUnfair nm_X4_countUnfair hdc rfl h8 hc hd) kk
theorem cf_X4_190 {K : Ctx} {E : ME} {Mi : MI} {d dc pc : Nat} {L : List (Option Value)} {rest : List Value} {σ : Sto} {R0 : Int} {S : Sto} (hE : Ok K E Mi d) (ho : Mi.1.cls = RX4) (hd : decode Mi.2.1 pc = .ok (.invokevirtual 190, 3)) (hc : CtI K mX4_countUnfair dc [.ref (kA K 0)] σ (fun r σ' => r = R0 ∧ σ' = S)) (hdc : Nat.blt dc d = true) (h8 : Nat.ble (rest.map fun v => v.category).sum 8 = true) (kk : V K E Mi (pc + 3) L (.int (i32 R0) :: rest) S) : V K E Mi pc L (.ref (kA K 0) :: rest) σ :=
  cl_X4_190 hE ho hd hc hdc h8 (fun _ _ h => by rw [h.1, h.2]; exact kk)
theorem nm_X0_farFromPuts : NmOk mX0_farFromPuts 0 := ⟨⟨by decide +kernel, by decide +kernel, by decide +kernel⟩, by decide⟩
theorem cl_X4_193 {K : Ctx} {E : ME} {Mi : MI} {d dc pc : Nat} {L : List (Option Value)} {rest : List Value} {σ : Sto} {post : Int → Sto → Prop} (hE : Ok K E Mi d) (ho : Mi.1.cls = RX4) (hd : decode Mi.2.1 pc = .ok (.invokevirtual 193, 3)) (hc : CtI K mX0_farFromPuts dc [.ref (kA K 1)] σ post) (hdc : Nat.blt dc d = true) (h8 : Nat.ble (rest.map fun v => v.category).sum 8 = true) (kk : ∀ (r : Int) (σ' : Sto), post r σ' → V K E Mi (pc + 3) L (.int (i32 r) :: rest) σ') : V K E Mi pc L (.ref (kA K 1) :: rest) σ :=
  V_callI hE (run_VN (k := 1) (n := 0) (As := []) hE rfl rfl (by rw [ho]; exact nw_ml_X4_193) tw_ins_X0_farFromPuts tw_sel_X0_farFromPuts tw_ini_X0 tw_cod_X0_farFromPuts nm_X0_farFromPuts hdc rfl h8 hc hd) kk
theorem cf_X4_193 {K : Ctx} {E : ME} {Mi : MI} {d dc pc : Nat} {L : List (Option Value)} {rest : List Value} {σ : Sto} {R0 : Int} {S : Sto} (hE : Ok K E Mi d) (ho : Mi.1.cls = RX4) (hd : decode Mi.2.1 pc = .ok (.invokevirtual 193, 3)) (hc : CtI K mX0_farFromPuts dc [.ref (kA K 1)] σ (fun r σ' => r = R0 ∧ σ' = S)) (hdc : Nat.blt dc d = true) (h8 : Nat.ble (rest.map fun v => v.category).sum 8 = true) (kk : V K E Mi (pc + 3) L (.int (i32 R0) :: rest) S) : V K E Mi pc L (.ref (kA K 1) :: rest) σ :=
  cl_X4_193 hE ho hd hc hdc h8 (fun _ _ h => by rw [h.1, h.2]; exact kk)
theorem nm_X0_layOut : NmOk mX0_layOut 3 := ⟨⟨by decide +kernel, by decide +kernel, by decide +kernel⟩, by decide⟩
theorem cl_X4_196 {K : Ctx} {E : ME} {Mi : MI} {d dc pc : Nat} {L : List (Option Value)} {rest : List Value} {σ : Sto} {a1 a2 a3 : Value} {post : Sto → Prop} (hE : Ok K E Mi d) (ho : Mi.1.cls = RX4) (hd : decode Mi.2.1 pc = .ok (.invokevirtual 196, 3)) (hc : CtV K mX0_layOut dc [.ref (kA K 1), a1, a2, a3] σ post) (hdc : Nat.blt dc d = true) (h8 : Nat.ble (rest.map fun v => v.category).sum 8 = true) (kk : ∀ σ' : Sto, post σ' → V K E Mi (pc + 3) L rest σ') : V K E Mi pc L (a3 :: a2 :: a1 :: .ref (kA K 1) :: rest) σ :=
  V_callV hE (run_VN (k := 1) (n := 3) (As := [a1, a2, a3]) hE rfl rfl (by rw [ho]; exact nw_ml_X4_196) tw_ins_X0_layOut tw_sel_X0_layOut tw_ini_X0 tw_cod_X0_layOut nm_X0_layOut hdc rfl h8 hc hd) kk
theorem cf_X4_196 {K : Ctx} {E : ME} {Mi : MI} {d dc pc : Nat} {L : List (Option Value)} {rest : List Value} {σ : Sto} {a1 a2 a3 : Value} {S : Sto} (hE : Ok K E Mi d) (ho : Mi.1.cls = RX4) (hd : decode Mi.2.1 pc = .ok (.invokevirtual 196, 3)) (hc : CtV K mX0_layOut dc [.ref (kA K 1), a1, a2, a3] σ (fun σ' => σ' = S)) (hdc : Nat.blt dc d = true) (h8 : Nat.ble (rest.map fun v => v.category).sum 8 = true) (kk : V K E Mi (pc + 3) L rest S) : V K E Mi pc L (a3 :: a2 :: a1 :: .ref (kA K 1) :: rest) σ :=
  cl_X4_196 hE ho hd hc hdc h8 (fun _ h => h ▸ kk)
theorem nm_X2_stay : NmOk mX2_stay 0 := ⟨⟨by decide +kernel, by decide +kernel, by decide +kernel⟩, by decide⟩
theorem cl_X4_200 {K : Ctx} {E : ME} {Mi : MI} {d dc pc : Nat} {L : List (Option Value)} {rest : List Value} {σ : Sto} {post : Sto → Prop} (hE : Ok K E Mi d) (ho : Mi.1.cls = RX4) (hd : decode Mi.2.1 pc = .ok (.invokevirtual 200, 3)) (hc : CtV K mX2_stay dc [.ref (kA K 3)] σ post) (hdc : Nat.blt dc d = true) (h8 : Nat.ble (rest.map fun v => v.category).sum 8 = true) (kk : ∀ σ' : Sto, post σ' → V K E Mi (pc + 3) L rest σ') : V K E Mi pc L (.ref (kA K 3) :: rest) σ :=
  V_callV hE (run_VN (k := 3) (n := 0) (As := []) hE rfl rfl (by rw [ho]; exact nw_ml_X4_200) tw_ins_X2_stay tw_sel_X2_stay tw_ini_X2 tw_cod_X2_stay nm_X2_stay hdc rfl h8 hc hd) kk
theorem cf_X4_200 {K : Ctx} {E : ME} {Mi : MI} {d dc pc : Nat} {L : List (Option Value)} {rest : List Value} {σ : Sto} {S : Sto} (hE : Ok K E Mi d) (ho : Mi.1.cls = RX4) (hd : decode Mi.2.1 pc = .ok (.invokevirtual 200, 3)) (hc : CtV K mX2_stay dc [.ref (kA K 3)] σ (fun σ' => σ' = S)) (hdc : Nat.blt dc d = true) (h8 : Nat.ble (rest.map fun v => v.category).sum 8 = true) (kk : V K E Mi (pc + 3) L rest S) : V K E Mi pc L (.ref (kA K 3) :: rest) σ :=
  cl_X4_200 hE ho hd hc hdc h8 (fun _ h => h ▸ kk)
theorem cl_X4_203 {K : Ctx} {E : ME} {Mi : MI} {d dc pc : Nat} {L : List (Option Value)} {rest : List Value} {σ : Sto} {a1 a2 a3 : Value} {post : Int → Sto → Prop} (hE : Ok K E Mi d) (ho : Mi.1.cls = RX4) (hd : decode Mi.2.1 pc = .ok (.invokevirtual 203, 3)) (hc : CtI K mX0_cell dc [.ref (kA K 1), a1, a2, a3] σ post) (hdc : Nat.blt dc d = true) (h8 : Nat.ble (rest.map fun v => v.category).sum 8 = true) (kk : ∀ (r : Int) (σ' : Sto), post r σ' → V K E Mi (pc + 3) L (.int (i32 r) :: rest) σ') : V K E Mi pc L (a3 :: a2 :: a1 :: .ref (kA K 1) :: rest) σ :=
  V_callI hE (run_VN (k := 1) (n := 3) (As := [a1, a2, a3]) hE rfl rfl (by rw [ho]; exact nw_ml_X4_203) tw_ins_X0_cell tw_sel_X0_cell tw_ini_X0 tw_cod_X0_cell nm_X0_cell hdc rfl h8 hc hd) kk
theorem cf_X4_203 {K : Ctx} {E : ME} {Mi : MI} {d dc pc : Nat} {L : List (Option Value)} {rest : List Value} {σ : Sto} {a1 a2 a3 : Value} {R0 : Int} {S : Sto} (hE : Ok K E Mi d) (ho : Mi.1.cls = RX4) (hd : decode Mi.2.1 pc = .ok (.invokevirtual 203, 3)) (hc : CtI K mX0_cell dc [.ref (kA K 1), a1, a2, a3] σ (fun r σ' => r = R0 ∧ σ' = S)) (hdc : Nat.blt dc d = true) (h8 : Nat.ble (rest.map fun v => v.category).sum 8 = true) (kk : V K E Mi (pc + 3) L (.int (i32 R0) :: rest) S) : V K E Mi pc L (a3 :: a2 :: a1 :: .ref (kA K 1) :: rest) σ :=
  cl_X4_203 hE ho hd hc hdc h8 (fun _ _ h => by rw [h.1, h.2]; exact kk)
theorem nm_X2_place : NmOk mX2_place 3 := ⟨⟨by decide +kernel, by decide +kernel, by decide +kernel⟩, by decide⟩
theorem cl_X4_207 {K : Ctx} {E : ME} {Mi : MI} {d dc pc : Nat} {L : List (Option Value)} {rest : List Value} {σ : Sto} {a1 a2 a3 : Value} {post : Sto → Prop} (hE : Ok K E Mi d) (ho : Mi.1.cls = RX4) (hd : decode Mi.2.1 pc = .ok (.invokevirtual 207, 3)) (hc : CtV K mX2_place dc [.ref (kA K 3), a1, a2, a3] σ post) (hdc : Nat.blt dc d = true) (h8 : Nat.ble (rest.map fun v => v.category).sum 8 = true) (kk : ∀ σ' : Sto, post σ' → V K E Mi (pc + 3) L rest σ') : V K E Mi pc L (a3 :: a2 :: a1 :: .ref (kA K 3) :: rest) σ :=
  V_callV hE (run_VN (k := 3) (n := 3) (As := [a1, a2, a3]) hE rfl rfl (by rw [ho]; exact nw_ml_X4_207) tw_ins_X2_place tw_sel_X2_place tw_ini_X2 tw_cod_X2_place nm_X2_place hdc rfl h8 hc hd) kk
theorem cf_X4_207 {K : Ctx} {E : ME} {Mi : MI} {d dc pc : Nat} {L : List (Option Value)} {rest : List Value} {σ : Sto} {a1 a2 a3 : Value} {S : Sto} (hE : Ok K E Mi d) (ho : Mi.1.cls = RX4) (hd : decode Mi.2.1 pc = .ok (.invokevirtual 207, 3)) (hc : CtV K mX2_place dc [.ref (kA K 3), a1, a2, a3] σ (fun σ' => σ' = S)) (hdc : Nat.blt dc d = true) (h8 : Nat.ble (rest.map fun v => v.category).sum 8 = true) (kk : V K E Mi (pc + 3) L rest S) : V K E Mi pc L (a3 :: a2 :: a1 :: .ref (kA K 3) :: rest) σ :=
  cl_X4_207 hE ho hd hc hdc h8 (fun _ h => h ▸ kk)
theorem nm_X2_seek : NmOk mX2_seek 2 := ⟨⟨by decide +kernel, by decide +kernel, by decide +kernel⟩, by decide⟩
theorem cl_X4_211 {K : Ctx} {E : ME} {Mi : MI} {d dc pc : Nat} {L : List (Option Value)} {rest : List Value} {σ : Sto} {a1 a2 : Value} {post : Int → Sto → Prop} (hE : Ok K E Mi d) (ho : Mi.1.cls = RX4) (hd : decode Mi.2.1 pc = .ok (.invokevirtual 211, 3)) (hc : CtI K mX2_seek dc [.ref (kA K 3), a1, a2] σ post) (hdc : Nat.blt dc d = true) (h8 : Nat.ble (rest.map fun v => v.category).sum 8 = true) (kk : ∀ (r : Int) (σ' : Sto), post r σ' → V K E Mi (pc + 3) L (.int (i32 r) :: rest) σ') : V K E Mi pc L (a2 :: a1 :: .ref (kA K 3) :: rest) σ :=
  V_callI hE (run_VN (k := 3) (n := 2) (As := [a1, a2]) hE rfl rfl (by rw [ho]; exact nw_ml_X4_211) tw_ins_X2_seek tw_sel_X2_seek tw_ini_X2 tw_cod_X2_seek nm_X2_seek hdc rfl h8 hc hd) kk
theorem cf_X4_211 {K : Ctx} {E : ME} {Mi : MI} {d dc pc : Nat} {L : List (Option Value)} {rest : List Value} {σ : Sto} {a1 a2 : Value} {R0 : Int} {S : Sto} (hE : Ok K E Mi d) (ho : Mi.1.cls = RX4) (hd : decode Mi.2.1 pc = .ok (.invokevirtual 211, 3)) (hc : CtI K mX2_seek dc [.ref (kA K 3), a1, a2] σ (fun r σ' => r = R0 ∧ σ' = S)) (hdc : Nat.blt dc d = true) (h8 : Nat.ble (rest.map fun v => v.category).sum 8 = true) (kk : V K E Mi (pc + 3) L (.int (i32 R0) :: rest) S) : V K E Mi pc L (a2 :: a1 :: .ref (kA K 3) :: rest) σ :=
  cl_X4_211 hE ho hd hc hdc h8 (fun _ _ h => by rw [h.1, h.2]; exact kk)
theorem nm_X4_commonDivisor : NmOk mX4_commonDivisor 2 := ⟨⟨by decide +kernel, by decide +kernel, by decide +kernel⟩, by decide⟩
theorem cl_X4_220 {K : Ctx} {E : ME} {Mi : MI} {d dc pc : Nat} {L : List (Option Value)} {rest : List Value} {σ : Sto} {a1 a2 : Value} {post : Int → Sto → Prop} (hE : Ok K E Mi d) (ho : Mi.1.cls = RX4) (hd : decode Mi.2.1 pc = .ok (.invokestatic 220, 3)) (hc : CtL K mX4_commonDivisor dc [a1, a2] σ post) (hdc : Nat.blt dc d = true) (h8 : Nat.ble (rest.map fun v => v.category).sum 8 = true) (kk : ∀ (r : Int) (σ' : Sto), post r σ' → V K E Mi (pc + 3) L (.long (i64 r) :: rest) σ') : V K E Mi pc L (a2 :: a1 :: rest) σ :=
  V_callL hE (run_S (n := 2) (As := [a1, a2]) hE (by rw [ho]; exact tw_ml_X4_220) tw_sta_X4_commonDivisor tw_ini_X4 tw_cod_X4_commonDivisor nm_X4_commonDivisor hdc rfl h8 hc hd) kk
theorem cf_X4_220 {K : Ctx} {E : ME} {Mi : MI} {d dc pc : Nat} {L : List (Option Value)} {rest : List Value} {σ : Sto} {a1 a2 : Value} {R0 : Int} {S : Sto} (hE : Ok K E Mi d) (ho : Mi.1.cls = RX4) (hd : decode Mi.2.1 pc = .ok (.invokestatic 220, 3)) (hc : CtL K mX4_commonDivisor dc [a1, a2] σ (fun r σ' => r = R0 ∧ σ' = S)) (hdc : Nat.blt dc d = true) (h8 : Nat.ble (rest.map fun v => v.category).sum 8 = true) (kk : V K E Mi (pc + 3) L (.long (i64 R0) :: rest) S) : V K E Mi pc L (a2 :: a1 :: rest) σ :=
  cl_X4_220 hE ho hd hc hdc h8 (fun _ _ h => by rw [h.1, h.2]; exact kk)
theorem nm_X5_within : NmOk mX5_within 3 := ⟨⟨by decide +kernel, by decide +kernel, by decide +kernel⟩, by decide⟩
theorem cl_X5_67 {K : Ctx} {E : ME} {Mi : MI} {d dc pc : Nat} {L : List (Option Value)} {rest : List Value} {σ : Sto} {a1 a2 a3 : Value} {post : Int → Sto → Prop} (hE : Ok K E Mi d) (ho : Mi.1.cls = RX5) (hd : decode Mi.2.1 pc = .ok (.invokestatic 67, 3)) (hc : CtI K mX5_within dc [a1, a2, a3] σ post) (hdc : Nat.blt dc d = true) (h8 : Nat.ble (rest.map fun v => v.category).sum 8 = true) (kk : ∀ (r : Int) (σ' : Sto), post r σ' → V K E Mi (pc + 3) L (.int (i32 r) :: rest) σ') : V K E Mi pc L (a3 :: a2 :: a1 :: rest) σ :=
  V_callI hE (run_S (n := 3) (As := [a1, a2, a3]) hE (by rw [ho]; exact tw_ml_X5_67) tw_sta_X5_within tw_ini_X5 tw_cod_X5_within nm_X5_within hdc rfl h8 hc hd) kk
theorem cf_X5_67 {K : Ctx} {E : ME} {Mi : MI} {d dc pc : Nat} {L : List (Option Value)} {rest : List Value} {σ : Sto} {a1 a2 a3 : Value} {R0 : Int} {S : Sto} (hE : Ok K E Mi d) (ho : Mi.1.cls = RX5) (hd : decode Mi.2.1 pc = .ok (.invokestatic 67, 3)) (hc : CtI K mX5_within dc [a1, a2, a3] σ (fun r σ' => r = R0 ∧ σ' = S)) (hdc : Nat.blt dc d = true) (h8 : Nat.ble (rest.map fun v => v.category).sum 8 = true) (kk : V K E Mi (pc + 3) L (.int (i32 R0) :: rest) S) : V K E Mi pc L (a3 :: a2 :: a1 :: rest) σ :=
  cl_X5_67 hE ho hd hc hdc h8 (fun _ _ h => by rw [h.1, h.2]; exact kk)
theorem nm_X5_isPoint : NmOk mX5_isPoint 2 := ⟨⟨by decide +kernel, by decide +kernel, by decide +kernel⟩, by decide⟩
theorem cl_X5_81 {K : Ctx} {E : ME} {Mi : MI} {d dc pc : Nat} {L : List (Option Value)} {rest : List Value} {σ : Sto} {a1 a2 : Value} {post : Int → Sto → Prop} (hE : Ok K E Mi d) (ho : Mi.1.cls = RX5) (hd : decode Mi.2.1 pc = .ok (.invokevirtual 81, 3)) (hc : CtI K mX5_isPoint dc [.ref (kA K 19), a1, a2] σ post) (hdc : Nat.blt dc d = true) (h8 : Nat.ble (rest.map fun v => v.category).sum 8 = true) (kk : ∀ (r : Int) (σ' : Sto), post r σ' → V K E Mi (pc + 3) L (.int (i32 r) :: rest) σ') : V K E Mi pc L (a2 :: a1 :: .ref (kA K 19) :: rest) σ :=
  V_callI hE (run_V (k := 19) (n := 2) (As := [a1, a2]) hE rfl rfl (by rw [ho]; exact tw_ml_X5_81) tw_ins_X5_isPoint tw_sel_X5_isPoint tw_ini_X5 tw_cod_X5_isPoint nm_X5_isPoint hdc rfl h8 hc hd) kk
theorem cf_X5_81 {K : Ctx} {E : ME} {Mi : MI} {d dc pc : Nat} {L : List (Option Value)} {rest : List Value} {σ : Sto} {a1 a2 : Value} {R0 : Int} {S : Sto} (hE : Ok K E Mi d) (ho : Mi.1.cls = RX5) (hd : decode Mi.2.1 pc = .ok (.invokevirtual 81, 3)) (hc : CtI K mX5_isPoint dc [.ref (kA K 19), a1, a2] σ (fun r σ' => r = R0 ∧ σ' = S)) (hdc : Nat.blt dc d = true) (h8 : Nat.ble (rest.map fun v => v.category).sum 8 = true) (kk : V K E Mi (pc + 3) L (.int (i32 R0) :: rest) S) : V K E Mi pc L (a2 :: a1 :: .ref (kA K 19) :: rest) σ :=
  cl_X5_81 hE ho hd hc hdc h8 (fun _ _ h => by rw [h.1, h.2]; exact kk)
theorem nm_X5_isOffset : NmOk mX5_isOffset 1 := ⟨⟨by decide +kernel, by decide +kernel, by decide +kernel⟩, by decide⟩
theorem cl_X5_85 {K : Ctx} {E : ME} {Mi : MI} {d dc pc : Nat} {L : List (Option Value)} {rest : List Value} {σ : Sto} {a1 : Value} {post : Int → Sto → Prop} (hE : Ok K E Mi d) (ho : Mi.1.cls = RX5) (hd : decode Mi.2.1 pc = .ok (.invokestatic 85, 3)) (hc : CtI K mX5_isOffset dc [a1] σ post) (hdc : Nat.blt dc d = true) (h8 : Nat.ble (rest.map fun v => v.category).sum 8 = true) (kk : ∀ (r : Int) (σ' : Sto), post r σ' → V K E Mi (pc + 3) L (.int (i32 r) :: rest) σ') : V K E Mi pc L (a1 :: rest) σ :=
  V_callI hE (run_S (n := 1) (As := [a1]) hE (by rw [ho]; exact tw_ml_X5_85) tw_sta_X5_isOffset tw_ini_X5 tw_cod_X5_isOffset nm_X5_isOffset hdc rfl h8 hc hd) kk
theorem cf_X5_85 {K : Ctx} {E : ME} {Mi : MI} {d dc pc : Nat} {L : List (Option Value)} {rest : List Value} {σ : Sto} {a1 : Value} {R0 : Int} {S : Sto} (hE : Ok K E Mi d) (ho : Mi.1.cls = RX5) (hd : decode Mi.2.1 pc = .ok (.invokestatic 85, 3)) (hc : CtI K mX5_isOffset dc [a1] σ (fun r σ' => r = R0 ∧ σ' = S)) (hdc : Nat.blt dc d = true) (h8 : Nat.ble (rest.map fun v => v.category).sum 8 = true) (kk : V K E Mi (pc + 3) L (.int (i32 R0) :: rest) S) : V K E Mi pc L (a1 :: rest) σ :=
  cl_X5_85 hE ho hd hc hdc h8 (fun _ _ h => by rw [h.1, h.2]; exact kk)
theorem nm_X5_linesOf : NmOk mX5_linesOf 1 := ⟨⟨by decide +kernel, by decide +kernel, by decide +kernel⟩, by decide⟩
theorem cl_X5_93 {K : Ctx} {E : ME} {Mi : MI} {d dc pc : Nat} {L : List (Option Value)} {rest : List Value} {σ : Sto} {a1 : Value} {post : Int → Sto → Prop} (hE : Ok K E Mi d) (ho : Mi.1.cls = RX5) (hd : decode Mi.2.1 pc = .ok (.invokevirtual 93, 3)) (hc : CtI K mX5_linesOf dc [.ref (kA K 19), a1] σ post) (hdc : Nat.blt dc d = true) (h8 : Nat.ble (rest.map fun v => v.category).sum 8 = true) (kk : ∀ (r : Int) (σ' : Sto), post r σ' → V K E Mi (pc + 3) L (.int (i32 r) :: rest) σ') : V K E Mi pc L (a1 :: .ref (kA K 19) :: rest) σ :=
  V_callI hE (run_V (k := 19) (n := 1) (As := [a1]) hE rfl rfl (by rw [ho]; exact tw_ml_X5_93) tw_ins_X5_linesOf tw_sel_X5_linesOf tw_ini_X5 tw_cod_X5_linesOf nm_X5_linesOf hdc rfl h8 hc hd) kk
theorem cf_X5_93 {K : Ctx} {E : ME} {Mi : MI} {d dc pc : Nat} {L : List (Option Value)} {rest : List Value} {σ : Sto} {a1 : Value} {R0 : Int} {S : Sto} (hE : Ok K E Mi d) (ho : Mi.1.cls = RX5) (hd : decode Mi.2.1 pc = .ok (.invokevirtual 93, 3)) (hc : CtI K mX5_linesOf dc [.ref (kA K 19), a1] σ (fun r σ' => r = R0 ∧ σ' = S)) (hdc : Nat.blt dc d = true) (h8 : Nat.ble (rest.map fun v => v.category).sum 8 = true) (kk : V K E Mi (pc + 3) L (.int (i32 R0) :: rest) S) : V K E Mi pc L (a1 :: .ref (kA K 19) :: rest) σ :=
  cl_X5_93 hE ho hd hc hdc h8 (fun _ _ h => by rw [h.1, h.2]; exact kk)
theorem nm_X5_bendAt : NmOk mX5_bendAt 1 := ⟨⟨by decide +kernel, by decide +kernel, by decide +kernel⟩, by decide⟩
theorem cl_X5_100 {K : Ctx} {E : ME} {Mi : MI} {d dc pc : Nat} {L : List (Option Value)} {rest : List Value} {σ : Sto} {a1 : Value} {post : Int → Sto → Prop} (hE : Ok K E Mi d) (ho : Mi.1.cls = RX5) (hd : decode Mi.2.1 pc = .ok (.invokevirtual 100, 3)) (hc : CtI K mX5_bendAt dc [.ref (kA K 19), a1] σ post) (hdc : Nat.blt dc d = true) (h8 : Nat.ble (rest.map fun v => v.category).sum 8 = true) (kk : ∀ (r : Int) (σ' : Sto), post r σ' → V K E Mi (pc + 3) L (.int (i32 r) :: rest) σ') : V K E Mi pc L (a1 :: .ref (kA K 19) :: rest) σ :=
  V_callI hE (run_V (k := 19) (n := 1) (As := [a1]) hE rfl rfl (by rw [ho]; exact tw_ml_X5_100) tw_ins_X5_bendAt tw_sel_X5_bendAt tw_ini_X5 tw_cod_X5_bendAt nm_X5_bendAt hdc rfl h8 hc hd) kk
theorem cf_X5_100 {K : Ctx} {E : ME} {Mi : MI} {d dc pc : Nat} {L : List (Option Value)} {rest : List Value} {σ : Sto} {a1 : Value} {R0 : Int} {S : Sto} (hE : Ok K E Mi d) (ho : Mi.1.cls = RX5) (hd : decode Mi.2.1 pc = .ok (.invokevirtual 100, 3)) (hc : CtI K mX5_bendAt dc [.ref (kA K 19), a1] σ (fun r σ' => r = R0 ∧ σ' = S)) (hdc : Nat.blt dc d = true) (h8 : Nat.ble (rest.map fun v => v.category).sum 8 = true) (kk : V K E Mi (pc + 3) L (.int (i32 R0) :: rest) S) : V K E Mi pc L (a1 :: .ref (kA K 19) :: rest) σ :=
  cl_X5_100 hE ho hd hc hdc h8 (fun _ _ h => by rw [h.1, h.2]; exact kk)
theorem nm_X5_isView : NmOk mX5_isView 1 := ⟨⟨by decide +kernel, by decide +kernel, by decide +kernel⟩, by decide⟩
theorem cl_X5_103 {K : Ctx} {E : ME} {Mi : MI} {d dc pc : Nat} {L : List (Option Value)} {rest : List Value} {σ : Sto} {a1 : Value} {post : Int → Sto → Prop} (hE : Ok K E Mi d) (ho : Mi.1.cls = RX5) (hd : decode Mi.2.1 pc = .ok (.invokestatic 103, 3)) (hc : CtI K mX5_isView dc [a1] σ post) (hdc : Nat.blt dc d = true) (h8 : Nat.ble (rest.map fun v => v.category).sum 8 = true) (kk : ∀ (r : Int) (σ' : Sto), post r σ' → V K E Mi (pc + 3) L (.int (i32 r) :: rest) σ') : V K E Mi pc L (a1 :: rest) σ :=
  V_callI hE (run_S (n := 1) (As := [a1]) hE (by rw [ho]; exact tw_ml_X5_103) tw_sta_X5_isView tw_ini_X5 tw_cod_X5_isView nm_X5_isView hdc rfl h8 hc hd) kk
theorem cf_X5_103 {K : Ctx} {E : ME} {Mi : MI} {d dc pc : Nat} {L : List (Option Value)} {rest : List Value} {σ : Sto} {a1 : Value} {R0 : Int} {S : Sto} (hE : Ok K E Mi d) (ho : Mi.1.cls = RX5) (hd : decode Mi.2.1 pc = .ok (.invokestatic 103, 3)) (hc : CtI K mX5_isView dc [a1] σ (fun r σ' => r = R0 ∧ σ' = S)) (hdc : Nat.blt dc d = true) (h8 : Nat.ble (rest.map fun v => v.category).sum 8 = true) (kk : V K E Mi (pc + 3) L (.int (i32 R0) :: rest) S) : V K E Mi pc L (a1 :: rest) σ :=
  cl_X5_103 hE ho hd hc hdc h8 (fun _ _ h => by rw [h.1, h.2]; exact kk)
theorem nm_X5_isLine : NmOk mX5_isLine 2 := ⟨⟨by decide +kernel, by decide +kernel, by decide +kernel⟩, by decide⟩
theorem cl_X5_106 {K : Ctx} {E : ME} {Mi : MI} {d dc pc : Nat} {L : List (Option Value)} {rest : List Value} {σ : Sto} {a1 a2 : Value} {post : Int → Sto → Prop} (hE : Ok K E Mi d) (ho : Mi.1.cls = RX5) (hd : decode Mi.2.1 pc = .ok (.invokevirtual 106, 3)) (hc : CtI K mX5_isLine dc [.ref (kA K 19), a1, a2] σ post) (hdc : Nat.blt dc d = true) (h8 : Nat.ble (rest.map fun v => v.category).sum 8 = true) (kk : ∀ (r : Int) (σ' : Sto), post r σ' → V K E Mi (pc + 3) L (.int (i32 r) :: rest) σ') : V K E Mi pc L (a2 :: a1 :: .ref (kA K 19) :: rest) σ :=
  V_callI hE (run_V (k := 19) (n := 2) (As := [a1, a2]) hE rfl rfl (by rw [ho]; exact tw_ml_X5_106) tw_ins_X5_isLine tw_sel_X5_isLine tw_ini_X5 tw_cod_X5_isLine nm_X5_isLine hdc rfl h8 hc hd) kk
theorem cf_X5_106 {K : Ctx} {E : ME} {Mi : MI} {d dc pc : Nat} {L : List (Option Value)} {rest : List Value} {σ : Sto} {a1 a2 : Value} {R0 : Int} {S : Sto} (hE : Ok K E Mi d) (ho : Mi.1.cls = RX5) (hd : decode Mi.2.1 pc = .ok (.invokevirtual 106, 3)) (hc : CtI K mX5_isLine dc [.ref (kA K 19), a1, a2] σ (fun r σ' => r = R0 ∧ σ' = S)) (hdc : Nat.blt dc d = true) (h8 : Nat.ble (rest.map fun v => v.category).sum 8 = true) (kk : V K E Mi (pc + 3) L (.int (i32 R0) :: rest) S) : V K E Mi pc L (a2 :: a1 :: .ref (kA K 19) :: rest) σ :=
  cl_X5_106 hE ho hd hc hdc h8 (fun _ _ h => by rw [h.1, h.2]; exact kk)
theorem nm_X5_lays : NmOk mX5_lays 2 := ⟨⟨by decide +kernel, by decide +kernel, by decide +kernel⟩, by decide⟩
theorem cl_X5_109 {K : Ctx} {E : ME} {Mi : MI} {d dc pc : Nat} {L : List (Option Value)} {rest : List Value} {σ : Sto} {a1 a2 : Value} {post : Sto → Prop} (hE : Ok K E Mi d) (ho : Mi.1.cls = RX5) (hd : decode Mi.2.1 pc = .ok (.invokevirtual 109, 3)) (hc : CtV K mX5_lays dc [.ref (kA K 19), a1, a2] σ post) (hdc : Nat.blt dc d = true) (h8 : Nat.ble (rest.map fun v => v.category).sum 8 = true) (kk : ∀ σ' : Sto, post σ' → V K E Mi (pc + 3) L rest σ') : V K E Mi pc L (a2 :: a1 :: .ref (kA K 19) :: rest) σ :=
  V_callV hE (run_V (k := 19) (n := 2) (As := [a1, a2]) hE rfl rfl (by rw [ho]; exact tw_ml_X5_109) tw_ins_X5_lays tw_sel_X5_lays tw_ini_X5 tw_cod_X5_lays nm_X5_lays hdc rfl h8 hc hd) kk
theorem cf_X5_109 {K : Ctx} {E : ME} {Mi : MI} {d dc pc : Nat} {L : List (Option Value)} {rest : List Value} {σ : Sto} {a1 a2 : Value} {S : Sto} (hE : Ok K E Mi d) (ho : Mi.1.cls = RX5) (hd : decode Mi.2.1 pc = .ok (.invokevirtual 109, 3)) (hc : CtV K mX5_lays dc [.ref (kA K 19), a1, a2] σ (fun σ' => σ' = S)) (hdc : Nat.blt dc d = true) (h8 : Nat.ble (rest.map fun v => v.category).sum 8 = true) (kk : V K E Mi (pc + 3) L rest S) : V K E Mi pc L (a2 :: a1 :: .ref (kA K 19) :: rest) σ :=
  cl_X5_109 hE ho hd hc hdc h8 (fun _ h => h ▸ kk)
theorem nm_X5_barred : NmOk mX5_barred 4 := ⟨⟨by decide +kernel, by decide +kernel, by decide +kernel⟩, by decide⟩
theorem cl_X5_113 {K : Ctx} {E : ME} {Mi : MI} {d dc pc : Nat} {L : List (Option Value)} {rest : List Value} {σ : Sto} {a1 a2 a3 a4 : Value} {post : Int → Sto → Prop} (hE : Ok K E Mi d) (ho : Mi.1.cls = RX5) (hd : decode Mi.2.1 pc = .ok (.invokevirtual 113, 3)) (hc : CtI K mX5_barred dc [.ref (kA K 19), a1, a2, a3, a4] σ post) (hdc : Nat.blt dc d = true) (h8 : Nat.ble (rest.map fun v => v.category).sum 8 = true) (kk : ∀ (r : Int) (σ' : Sto), post r σ' → V K E Mi (pc + 3) L (.int (i32 r) :: rest) σ') : V K E Mi pc L (a4 :: a3 :: a2 :: a1 :: .ref (kA K 19) :: rest) σ :=
  V_callI hE (run_V (k := 19) (n := 4) (As := [a1, a2, a3, a4]) hE rfl rfl (by rw [ho]; exact tw_ml_X5_113) tw_ins_X5_barred tw_sel_X5_barred tw_ini_X5 tw_cod_X5_barred nm_X5_barred hdc rfl h8 hc hd) kk
theorem cf_X5_113 {K : Ctx} {E : ME} {Mi : MI} {d dc pc : Nat} {L : List (Option Value)} {rest : List Value} {σ : Sto} {a1 a2 a3 a4 : Value} {R0 : Int} {S : Sto} (hE : Ok K E Mi d) (ho : Mi.1.cls = RX5) (hd : decode Mi.2.1 pc = .ok (.invokevirtual 113, 3)) (hc : CtI K mX5_barred dc [.ref (kA K 19), a1, a2, a3, a4] σ (fun r σ' => r = R0 ∧ σ' = S)) (hdc : Nat.blt dc d = true) (h8 : Nat.ble (rest.map fun v => v.category).sum 8 = true) (kk : V K E Mi (pc + 3) L (.int (i32 R0) :: rest) S) : V K E Mi pc L (a4 :: a3 :: a2 :: a1 :: .ref (kA K 19) :: rest) σ :=
  cl_X5_113 hE ho hd hc hdc h8 (fun _ _ h => by rw [h.1, h.2]; exact kk)
theorem nm_X5_jumpAt : NmOk mX5_jumpAt 1 := ⟨⟨by decide +kernel, by decide +kernel, by decide +kernel⟩, by decide⟩
theorem cl_X5_117 {K : Ctx} {E : ME} {Mi : MI} {d dc pc : Nat} {L : List (Option Value)} {rest : List Value} {σ : Sto} {a1 : Value} {post : Int → Sto → Prop} (hE : Ok K E Mi d) (ho : Mi.1.cls = RX5) (hd : decode Mi.2.1 pc = .ok (.invokevirtual 117, 3)) (hc : CtI K mX5_jumpAt dc [.ref (kA K 19), a1] σ post) (hdc : Nat.blt dc d = true) (h8 : Nat.ble (rest.map fun v => v.category).sum 8 = true) (kk : ∀ (r : Int) (σ' : Sto), post r σ' → V K E Mi (pc + 3) L (.int (i32 r) :: rest) σ') : V K E Mi pc L (a1 :: .ref (kA K 19) :: rest) σ :=
  V_callI hE (run_V (k := 19) (n := 1) (As := [a1]) hE rfl rfl (by rw [ho]; exact tw_ml_X5_117) tw_ins_X5_jumpAt tw_sel_X5_jumpAt tw_ini_X5 tw_cod_X5_jumpAt nm_X5_jumpAt hdc rfl h8 hc hd) kk
theorem cf_X5_117 {K : Ctx} {E : ME} {Mi : MI} {d dc pc : Nat} {L : List (Option Value)} {rest : List Value} {σ : Sto} {a1 : Value} {R0 : Int} {S : Sto} (hE : Ok K E Mi d) (ho : Mi.1.cls = RX5) (hd : decode Mi.2.1 pc = .ok (.invokevirtual 117, 3)) (hc : CtI K mX5_jumpAt dc [.ref (kA K 19), a1] σ (fun r σ' => r = R0 ∧ σ' = S)) (hdc : Nat.blt dc d = true) (h8 : Nat.ble (rest.map fun v => v.category).sum 8 = true) (kk : V K E Mi (pc + 3) L (.int (i32 R0) :: rest) S) : V K E Mi pc L (a1 :: .ref (kA K 19) :: rest) σ :=
  cl_X5_117 hE ho hd hc hdc h8 (fun _ _ h => by rw [h.1, h.2]; exact kk)
theorem nm_X5_far : NmOk mX5_far 1 := ⟨⟨by decide +kernel, by decide +kernel, by decide +kernel⟩, by decide⟩
theorem cl_X5_120 {K : Ctx} {E : ME} {Mi : MI} {d dc pc : Nat} {L : List (Option Value)} {rest : List Value} {σ : Sto} {a1 : Value} {post : Int → Sto → Prop} (hE : Ok K E Mi d) (ho : Mi.1.cls = RX5) (hd : decode Mi.2.1 pc = .ok (.invokestatic 120, 3)) (hc : CtI K mX5_far dc [a1] σ post) (hdc : Nat.blt dc d = true) (h8 : Nat.ble (rest.map fun v => v.category).sum 8 = true) (kk : ∀ (r : Int) (σ' : Sto), post r σ' → V K E Mi (pc + 3) L (.int (i32 r) :: rest) σ') : V K E Mi pc L (a1 :: rest) σ :=
  V_callI hE (run_S (n := 1) (As := [a1]) hE (by rw [ho]; exact tw_ml_X5_120) tw_sta_X5_far tw_ini_X5 tw_cod_X5_far nm_X5_far hdc rfl h8 hc hd) kk
theorem cf_X5_120 {K : Ctx} {E : ME} {Mi : MI} {d dc pc : Nat} {L : List (Option Value)} {rest : List Value} {σ : Sto} {a1 : Value} {R0 : Int} {S : Sto} (hE : Ok K E Mi d) (ho : Mi.1.cls = RX5) (hd : decode Mi.2.1 pc = .ok (.invokestatic 120, 3)) (hc : CtI K mX5_far dc [a1] σ (fun r σ' => r = R0 ∧ σ' = S)) (hdc : Nat.blt dc d = true) (h8 : Nat.ble (rest.map fun v => v.category).sum 8 = true) (kk : V K E Mi (pc + 3) L (.int (i32 R0) :: rest) S) : V K E Mi pc L (a1 :: rest) σ :=
  cl_X5_120 hE ho hd hc hdc h8 (fun _ _ h => by rw [h.1, h.2]; exact kk)
theorem nm_X5_roughNow : NmOk mX5_roughNow 0 := ⟨⟨by decide +kernel, by decide +kernel, by decide +kernel⟩, by decide⟩
theorem cl_X5_123 {K : Ctx} {E : ME} {Mi : MI} {d dc pc : Nat} {L : List (Option Value)} {rest : List Value} {σ : Sto} {post : Int → Sto → Prop} (hE : Ok K E Mi d) (ho : Mi.1.cls = RX5) (hd : decode Mi.2.1 pc = .ok (.invokevirtual 123, 3)) (hc : CtI K mX5_roughNow dc [.ref (kA K 19)] σ post) (hdc : Nat.blt dc d = true) (h8 : Nat.ble (rest.map fun v => v.category).sum 8 = true) (kk : ∀ (r : Int) (σ' : Sto), post r σ' → V K E Mi (pc + 3) L (.int (i32 r) :: rest) σ') : V K E Mi pc L (.ref (kA K 19) :: rest) σ :=
  V_callI hE (run_V (k := 19) (n := 0) (As := []) hE rfl rfl (by rw [ho]; exact tw_ml_X5_123) tw_ins_X5_roughNow tw_sel_X5_roughNow tw_ini_X5 tw_cod_X5_roughNow nm_X5_roughNow hdc rfl h8 hc hd) kk
theorem cf_X5_123 {K : Ctx} {E : ME} {Mi : MI} {d dc pc : Nat} {L : List (Option Value)} {rest : List Value} {σ : Sto} {R0 : Int} {S : Sto} (hE : Ok K E Mi d) (ho : Mi.1.cls = RX5) (hd : decode Mi.2.1 pc = .ok (.invokevirtual 123, 3)) (hc : CtI K mX5_roughNow dc [.ref (kA K 19)] σ (fun r σ' => r = R0 ∧ σ' = S)) (hdc : Nat.blt dc d = true) (h8 : Nat.ble (rest.map fun v => v.category).sum 8 = true) (kk : V K E Mi (pc + 3) L (.int (i32 R0) :: rest) S) : V K E Mi pc L (.ref (kA K 19) :: rest) σ :=
  cl_X5_123 hE ho hd hc hdc h8 (fun _ _ h => by rw [h.1, h.2]; exact kk)
theorem nm_X5_may : NmOk mX5_may 2 := ⟨⟨by decide +kernel, by decide +kernel, by decide +kernel⟩, by decide⟩
theorem cl_X5_128 {K : Ctx} {E : ME} {Mi : MI} {d dc pc : Nat} {L : List (Option Value)} {rest : List Value} {σ : Sto} {a1 a2 : Value} {post : Int → Sto → Prop} (hE : Ok K E Mi d) (ho : Mi.1.cls = RX5) (hd : decode Mi.2.1 pc = .ok (.invokevirtual 128, 3)) (hc : CtI K mX5_may dc [.ref (kA K 19), a1, a2] σ post) (hdc : Nat.blt dc d = true) (h8 : Nat.ble (rest.map fun v => v.category).sum 8 = true) (kk : ∀ (r : Int) (σ' : Sto), post r σ' → V K E Mi (pc + 3) L (.int (i32 r) :: rest) σ') : V K E Mi pc L (a2 :: a1 :: .ref (kA K 19) :: rest) σ :=
  V_callI hE (run_V (k := 19) (n := 2) (As := [a1, a2]) hE rfl rfl (by rw [ho]; exact tw_ml_X5_128) tw_ins_X5_may tw_sel_X5_may tw_ini_X5 tw_cod_X5_may nm_X5_may hdc rfl h8 hc hd) kk
theorem cf_X5_128 {K : Ctx} {E : ME} {Mi : MI} {d dc pc : Nat} {L : List (Option Value)} {rest : List Value} {σ : Sto} {a1 a2 : Value} {R0 : Int} {S : Sto} (hE : Ok K E Mi d) (ho : Mi.1.cls = RX5) (hd : decode Mi.2.1 pc = .ok (.invokevirtual 128, 3)) (hc : CtI K mX5_may dc [.ref (kA K 19), a1, a2] σ (fun r σ' => r = R0 ∧ σ' = S)) (hdc : Nat.blt dc d = true) (h8 : Nat.ble (rest.map fun v => v.category).sum 8 = true) (kk : V K E Mi (pc + 3) L (.int (i32 R0) :: rest) S) : V K E Mi pc L (a2 :: a1 :: .ref (kA K 19) :: rest) σ :=
  cl_X5_128 hE ho hd hc hdc h8 (fun _ _ h => by rw [h.1, h.2]; exact kk)
theorem nm_X5_isFair : NmOk mX5_isFair 5 := ⟨⟨by decide +kernel, by decide +kernel, by decide +kernel⟩, by decide⟩
theorem cl_X5_131 {K : Ctx} {E : ME} {Mi : MI} {d dc pc : Nat} {L : List (Option Value)} {rest : List Value} {σ : Sto} {a1 a2 a3 a4 a5 : Value} {post : Int → Sto → Prop} (hE : Ok K E Mi d) (ho : Mi.1.cls = RX5) (hd : decode Mi.2.1 pc = .ok (.invokevirtual 131, 3)) (hc : CtI K mX5_isFair dc [.ref (kA K 19), a1, a2, a3, a4, a5] σ post) (hdc : Nat.blt dc d = true) (h8 : Nat.ble (rest.map fun v => v.category).sum 8 = true) (kk : ∀ (r : Int) (σ' : Sto), post r σ' → V K E Mi (pc + 3) L (.int (i32 r) :: rest) σ') : V K E Mi pc L (a5 :: a4 :: a3 :: a2 :: a1 :: .ref (kA K 19) :: rest) σ :=
  V_callI hE (run_V (k := 19) (n := 5) (As := [a1, a2, a3, a4, a5]) hE rfl rfl (by rw [ho]; exact tw_ml_X5_131) tw_ins_X5_isFair tw_sel_X5_isFair tw_ini_X5 tw_cod_X5_isFair nm_X5_isFair hdc rfl h8 hc hd) kk
theorem cf_X5_131 {K : Ctx} {E : ME} {Mi : MI} {d dc pc : Nat} {L : List (Option Value)} {rest : List Value} {σ : Sto} {a1 a2 a3 a4 a5 : Value} {R0 : Int} {S : Sto} (hE : Ok K E Mi d) (ho : Mi.1.cls = RX5) (hd : decode Mi.2.1 pc = .ok (.invokevirtual 131, 3)) (hc : CtI K mX5_isFair dc [.ref (kA K 19), a1, a2, a3, a4, a5] σ (fun r σ' => r = R0 ∧ σ' = S)) (hdc : Nat.blt dc d = true) (h8 : Nat.ble (rest.map fun v => v.category).sum 8 = true) (kk : V K E Mi (pc + 3) L (.int (i32 R0) :: rest) S) : V K E Mi pc L (a5 :: a4 :: a3 :: a2 :: a1 :: .ref (kA K 19) :: rest) σ :=
  cl_X5_131 hE ho hd hc hdc h8 (fun _ _ h => by rw [h.1, h.2]; exact kk)
theorem nm_X5_triple : NmOk mX5_triple 3 := ⟨⟨by decide +kernel, by decide +kernel, by decide +kernel⟩, by decide⟩
theorem cl_X5_135 {K : Ctx} {E : ME} {Mi : MI} {d dc pc : Nat} {L : List (Option Value)} {rest : List Value} {σ : Sto} {a1 a2 a3 : Value} {post : Int → Sto → Prop} (hE : Ok K E Mi d) (ho : Mi.1.cls = RX5) (hd : decode Mi.2.1 pc = .ok (.invokestatic 135, 3)) (hc : CtI K mX5_triple dc [a1, a2, a3] σ post) (hdc : Nat.blt dc d = true) (h8 : Nat.ble (rest.map fun v => v.category).sum 8 = true) (kk : ∀ (r : Int) (σ' : Sto), post r σ' → V K E Mi (pc + 3) L (.int (i32 r) :: rest) σ') : V K E Mi pc L (a3 :: a2 :: a1 :: rest) σ :=
  V_callI hE (run_S (n := 3) (As := [a1, a2, a3]) hE (by rw [ho]; exact tw_ml_X5_135) tw_sta_X5_triple tw_ini_X5 tw_cod_X5_triple nm_X5_triple hdc rfl h8 hc hd) kk
theorem cf_X5_135 {K : Ctx} {E : ME} {Mi : MI} {d dc pc : Nat} {L : List (Option Value)} {rest : List Value} {σ : Sto} {a1 a2 a3 : Value} {R0 : Int} {S : Sto} (hE : Ok K E Mi d) (ho : Mi.1.cls = RX5) (hd : decode Mi.2.1 pc = .ok (.invokestatic 135, 3)) (hc : CtI K mX5_triple dc [a1, a2, a3] σ (fun r σ' => r = R0 ∧ σ' = S)) (hdc : Nat.blt dc d = true) (h8 : Nat.ble (rest.map fun v => v.category).sum 8 = true) (kk : V K E Mi (pc + 3) L (.int (i32 R0) :: rest) S) : V K E Mi pc L (a3 :: a2 :: a1 :: rest) σ :=
  cl_X5_135 hE ho hd hc hdc h8 (fun _ _ h => by rw [h.1, h.2]; exact kk)
theorem nm_X5_needFrom : NmOk mX5_needFrom 4 := ⟨⟨by decide +kernel, by decide +kernel, by decide +kernel⟩, by decide⟩
theorem cl_X5_139 {K : Ctx} {E : ME} {Mi : MI} {d dc pc : Nat} {L : List (Option Value)} {rest : List Value} {σ : Sto} {a1 a2 a3 a4 : Value} {post : Int → Sto → Prop} (hE : Ok K E Mi d) (ho : Mi.1.cls = RX5) (hd : decode Mi.2.1 pc = .ok (.invokevirtual 139, 3)) (hc : CtI K mX5_needFrom dc [.ref (kA K 19), a1, a2, a3, a4] σ post) (hdc : Nat.blt dc d = true) (h8 : Nat.ble (rest.map fun v => v.category).sum 8 = true) (kk : ∀ (r : Int) (σ' : Sto), post r σ' → V K E Mi (pc + 3) L (.int (i32 r) :: rest) σ') : V K E Mi pc L (a4 :: a3 :: a2 :: a1 :: .ref (kA K 19) :: rest) σ :=
  V_callI hE (run_V (k := 19) (n := 4) (As := [a1, a2, a3, a4]) hE rfl rfl (by rw [ho]; exact tw_ml_X5_139) tw_ins_X5_needFrom tw_sel_X5_needFrom tw_ini_X5 tw_cod_X5_needFrom nm_X5_needFrom hdc rfl h8 hc hd) kk
theorem cf_X5_139 {K : Ctx} {E : ME} {Mi : MI} {d dc pc : Nat} {L : List (Option Value)} {rest : List Value} {σ : Sto} {a1 a2 a3 a4 : Value} {R0 : Int} {S : Sto} (hE : Ok K E Mi d) (ho : Mi.1.cls = RX5) (hd : decode Mi.2.1 pc = .ok (.invokevirtual 139, 3)) (hc : CtI K mX5_needFrom dc [.ref (kA K 19), a1, a2, a3, a4] σ (fun r σ' => r = R0 ∧ σ' = S)) (hdc : Nat.blt dc d = true) (h8 : Nat.ble (rest.map fun v => v.category).sum 8 = true) (kk : V K E Mi (pc + 3) L (.int (i32 R0) :: rest) S) : V K E Mi pc L (a4 :: a3 :: a2 :: a1 :: .ref (kA K 19) :: rest) σ :=
  cl_X5_139 hE ho hd hc hdc h8 (fun _ _ h => by rw [h.1, h.2]; exact kk)
theorem nm_X5_findNeeds : NmOk mX5_findNeeds 0 := ⟨⟨by decide +kernel, by decide +kernel, by decide +kernel⟩, by decide⟩
theorem cl_X5_145 {K : Ctx} {E : ME} {Mi : MI} {d dc pc : Nat} {L : List (Option Value)} {rest : List Value} {σ : Sto} {post : Sto → Prop} (hE : Ok K E Mi d) (ho : Mi.1.cls = RX5) (hd : decode Mi.2.1 pc = .ok (.invokevirtual 145, 3)) (hc : CtV K mX5_findNeeds dc [.ref (kA K 19)] σ post) (hdc : Nat.blt dc d = true) (h8 : Nat.ble (rest.map fun v => v.category).sum 8 = true) (kk : ∀ σ' : Sto, post σ' → V K E Mi (pc + 3) L rest σ') : V K E Mi pc L (.ref (kA K 19) :: rest) σ :=
  V_callV hE (run_V (k := 19) (n := 0) (As := []) hE rfl rfl (by rw [ho]; exact tw_ml_X5_145) tw_ins_X5_findNeeds tw_sel_X5_findNeeds tw_ini_X5 tw_cod_X5_findNeeds nm_X5_findNeeds hdc rfl h8 hc hd) kk
theorem cf_X5_145 {K : Ctx} {E : ME} {Mi : MI} {d dc pc : Nat} {L : List (Option Value)} {rest : List Value} {σ : Sto} {S : Sto} (hE : Ok K E Mi d) (ho : Mi.1.cls = RX5) (hd : decode Mi.2.1 pc = .ok (.invokevirtual 145, 3)) (hc : CtV K mX5_findNeeds dc [.ref (kA K 19)] σ (fun σ' => σ' = S)) (hdc : Nat.blt dc d = true) (h8 : Nat.ble (rest.map fun v => v.category).sum 8 = true) (kk : V K E Mi (pc + 3) L rest S) : V K E Mi pc L (.ref (kA K 19) :: rest) σ :=
  cl_X5_145 hE ho hd hc hdc h8 (fun _ h => h ▸ kk)
theorem nm_X5_begins : NmOk mX5_begins 0 := ⟨⟨by decide +kernel, by decide +kernel, by decide +kernel⟩, by decide⟩
theorem cl_X5_148 {K : Ctx} {E : ME} {Mi : MI} {d dc pc : Nat} {L : List (Option Value)} {rest : List Value} {σ : Sto} {post : Int → Sto → Prop} (hE : Ok K E Mi d) (ho : Mi.1.cls = RX5) (hd : decode Mi.2.1 pc = .ok (.invokevirtual 148, 3)) (hc : CtI K mX5_begins dc [.ref (kA K 19)] σ post) (hdc : Nat.blt dc d = true) (h8 : Nat.ble (rest.map fun v => v.category).sum 8 = true) (kk : ∀ (r : Int) (σ' : Sto), post r σ' → V K E Mi (pc + 3) L (.int (i32 r) :: rest) σ') : V K E Mi pc L (.ref (kA K 19) :: rest) σ :=
  V_callI hE (run_V (k := 19) (n := 0) (As := []) hE rfl rfl (by rw [ho]; exact tw_ml_X5_148) tw_ins_X5_begins tw_sel_X5_begins tw_ini_X5 tw_cod_X5_begins nm_X5_begins hdc rfl h8 hc hd) kk
theorem cf_X5_148 {K : Ctx} {E : ME} {Mi : MI} {d dc pc : Nat} {L : List (Option Value)} {rest : List Value} {σ : Sto} {R0 : Int} {S : Sto} (hE : Ok K E Mi d) (ho : Mi.1.cls = RX5) (hd : decode Mi.2.1 pc = .ok (.invokevirtual 148, 3)) (hc : CtI K mX5_begins dc [.ref (kA K 19)] σ (fun r σ' => r = R0 ∧ σ' = S)) (hdc : Nat.blt dc d = true) (h8 : Nat.ble (rest.map fun v => v.category).sum 8 = true) (kk : V K E Mi (pc + 3) L (.int (i32 R0) :: rest) S) : V K E Mi pc L (.ref (kA K 19) :: rest) σ :=
  cl_X5_148 hE ho hd hc hdc h8 (fun _ _ h => by rw [h.1, h.2]; exact kk)
theorem nm_X5_nextMove : NmOk mX5_nextMove 1 := ⟨⟨by decide +kernel, by decide +kernel, by decide +kernel⟩, by decide⟩
theorem cl_X5_152 {K : Ctx} {E : ME} {Mi : MI} {d dc pc : Nat} {L : List (Option Value)} {rest : List Value} {σ : Sto} {a1 : Value} {post : Int → Sto → Prop} (hE : Ok K E Mi d) (ho : Mi.1.cls = RX5) (hd : decode Mi.2.1 pc = .ok (.invokevirtual 152, 3)) (hc : CtI K mX5_nextMove dc [.ref (kA K 19), a1] σ post) (hdc : Nat.blt dc d = true) (h8 : Nat.ble (rest.map fun v => v.category).sum 8 = true) (kk : ∀ (r : Int) (σ' : Sto), post r σ' → V K E Mi (pc + 3) L (.int (i32 r) :: rest) σ') : V K E Mi pc L (a1 :: .ref (kA K 19) :: rest) σ :=
  V_callI hE (run_V (k := 19) (n := 1) (As := [a1]) hE rfl rfl (by rw [ho]; exact tw_ml_X5_152) tw_ins_X5_nextMove tw_sel_X5_nextMove tw_ini_X5 tw_cod_X5_nextMove nm_X5_nextMove hdc rfl h8 hc hd) kk
theorem cf_X5_152 {K : Ctx} {E : ME} {Mi : MI} {d dc pc : Nat} {L : List (Option Value)} {rest : List Value} {σ : Sto} {a1 : Value} {R0 : Int} {S : Sto} (hE : Ok K E Mi d) (ho : Mi.1.cls = RX5) (hd : decode Mi.2.1 pc = .ok (.invokevirtual 152, 3)) (hc : CtI K mX5_nextMove dc [.ref (kA K 19), a1] σ (fun r σ' => r = R0 ∧ σ' = S)) (hdc : Nat.blt dc d = true) (h8 : Nat.ble (rest.map fun v => v.category).sum 8 = true) (kk : V K E Mi (pc + 3) L (.int (i32 R0) :: rest) S) : V K E Mi pc L (a1 :: .ref (kA K 19) :: rest) σ :=
  cl_X5_152 hE ho hd hc hdc h8 (fun _ _ h => by rw [h.1, h.2]; exact kk)
theorem nm_X5_findLeast : NmOk mX5_findLeast 0 := ⟨⟨by decide +kernel, by decide +kernel, by decide +kernel⟩, by decide⟩
theorem cl_X5_157 {K : Ctx} {E : ME} {Mi : MI} {d dc pc : Nat} {L : List (Option Value)} {rest : List Value} {σ : Sto} {post : Int → Sto → Prop} (hE : Ok K E Mi d) (ho : Mi.1.cls = RX5) (hd : decode Mi.2.1 pc = .ok (.invokevirtual 157, 3)) (hc : CtI K mX5_findLeast dc [.ref (kA K 19)] σ post) (hdc : Nat.blt dc d = true) (h8 : Nat.ble (rest.map fun v => v.category).sum 8 = true) (kk : ∀ (r : Int) (σ' : Sto), post r σ' → V K E Mi (pc + 3) L (.int (i32 r) :: rest) σ') : V K E Mi pc L (.ref (kA K 19) :: rest) σ :=
  V_callI hE (run_V (k := 19) (n := 0) (As := []) hE rfl rfl (by rw [ho]; exact tw_ml_X5_157) tw_ins_X5_findLeast tw_sel_X5_findLeast tw_ini_X5 tw_cod_X5_findLeast nm_X5_findLeast hdc rfl h8 hc hd) kk
theorem cf_X5_157 {K : Ctx} {E : ME} {Mi : MI} {d dc pc : Nat} {L : List (Option Value)} {rest : List Value} {σ : Sto} {R0 : Int} {S : Sto} (hE : Ok K E Mi d) (ho : Mi.1.cls = RX5) (hd : decode Mi.2.1 pc = .ok (.invokevirtual 157, 3)) (hc : CtI K mX5_findLeast dc [.ref (kA K 19)] σ (fun r σ' => r = R0 ∧ σ' = S)) (hdc : Nat.blt dc d = true) (h8 : Nat.ble (rest.map fun v => v.category).sum 8 = true) (kk : V K E Mi (pc + 3) L (.int (i32 R0) :: rest) S) : V K E Mi pc L (.ref (kA K 19) :: rest) σ :=
  cl_X5_157 hE ho hd hc hdc h8 (fun _ _ h => by rw [h.1, h.2]; exact kk)
theorem nm_X5_fairs : NmOk mX5_fairs 2 := ⟨⟨by decide +kernel, by decide +kernel, by decide +kernel⟩, by decide⟩
theorem cl_X5_160 {K : Ctx} {E : ME} {Mi : MI} {d dc pc : Nat} {L : List (Option Value)} {rest : List Value} {σ : Sto} {a1 a2 : Value} {post : Int → Sto → Prop} (hE : Ok K E Mi d) (ho : Mi.1.cls = RX5) (hd : decode Mi.2.1 pc = .ok (.invokevirtual 160, 3)) (hc : CtI K mX5_fairs dc [.ref (kA K 19), a1, a2] σ post) (hdc : Nat.blt dc d = true) (h8 : Nat.ble (rest.map fun v => v.category).sum 8 = true) (kk : ∀ (r : Int) (σ' : Sto), post r σ' → V K E Mi (pc + 3) L (.int (i32 r) :: rest) σ') : V K E Mi pc L (a2 :: a1 :: .ref (kA K 19) :: rest) σ :=
  V_callI hE (run_V (k := 19) (n := 2) (As := [a1, a2]) hE rfl rfl (by rw [ho]; exact tw_ml_X5_160) tw_ins_X5_fairs tw_sel_X5_fairs tw_ini_X5 tw_cod_X5_fairs nm_X5_fairs hdc rfl h8 hc hd) kk
theorem cf_X5_160 {K : Ctx} {E : ME} {Mi : MI} {d dc pc : Nat} {L : List (Option Value)} {rest : List Value} {σ : Sto} {a1 a2 : Value} {R0 : Int} {S : Sto} (hE : Ok K E Mi d) (ho : Mi.1.cls = RX5) (hd : decode Mi.2.1 pc = .ok (.invokevirtual 160, 3)) (hc : CtI K mX5_fairs dc [.ref (kA K 19), a1, a2] σ (fun r σ' => r = R0 ∧ σ' = S)) (hdc : Nat.blt dc d = true) (h8 : Nat.ble (rest.map fun v => v.category).sum 8 = true) (kk : V K E Mi (pc + 3) L (.int (i32 R0) :: rest) S) : V K E Mi pc L (a2 :: a1 :: .ref (kA K 19) :: rest) σ :=
  cl_X5_160 hE ho hd hc hdc h8 (fun _ _ h => by rw [h.1, h.2]; exact kk)
theorem nm_X5_round : NmOk mX5_round 0 := ⟨⟨by decide +kernel, by decide +kernel, by decide +kernel⟩, by decide⟩
theorem cl_X5_165 {K : Ctx} {E : ME} {Mi : MI} {d dc pc : Nat} {L : List (Option Value)} {rest : List Value} {σ : Sto} {post : Int → Sto → Prop} (hE : Ok K E Mi d) (ho : Mi.1.cls = RX5) (hd : decode Mi.2.1 pc = .ok (.invokevirtual 165, 3)) (hc : CtI K mX5_round dc [.ref (kA K 19)] σ post) (hdc : Nat.blt dc d = true) (h8 : Nat.ble (rest.map fun v => v.category).sum 8 = true) (kk : ∀ (r : Int) (σ' : Sto), post r σ' → V K E Mi (pc + 3) L (.int (i32 r) :: rest) σ') : V K E Mi pc L (.ref (kA K 19) :: rest) σ :=
  V_callI hE (run_V (k := 19) (n := 0) (As := []) hE rfl rfl (by rw [ho]; exact tw_ml_X5_165) tw_ins_X5_round tw_sel_X5_round tw_ini_X5 tw_cod_X5_round nm_X5_round hdc rfl h8 hc hd) kk
theorem cf_X5_165 {K : Ctx} {E : ME} {Mi : MI} {d dc pc : Nat} {L : List (Option Value)} {rest : List Value} {σ : Sto} {R0 : Int} {S : Sto} (hE : Ok K E Mi d) (ho : Mi.1.cls = RX5) (hd : decode Mi.2.1 pc = .ok (.invokevirtual 165, 3)) (hc : CtI K mX5_round dc [.ref (kA K 19)] σ (fun r σ' => r = R0 ∧ σ' = S)) (hdc : Nat.blt dc d = true) (h8 : Nat.ble (rest.map fun v => v.category).sum 8 = true) (kk : V K E Mi (pc + 3) L (.int (i32 R0) :: rest) S) : V K E Mi pc L (.ref (kA K 19) :: rest) σ :=
  cl_X5_165 hE ho hd hc hdc h8 (fun _ _ h => by rw [h.1, h.2]; exact kk)
theorem nm_X5_sixths : NmOk mX5_sixths 1 := ⟨⟨by decide +kernel, by decide +kernel, by decide +kernel⟩, by decide⟩
theorem cl_X5_170 {K : Ctx} {E : ME} {Mi : MI} {d dc pc : Nat} {L : List (Option Value)} {rest : List Value} {σ : Sto} {a1 : Value} {post : Int → Sto → Prop} (hE : Ok K E Mi d) (ho : Mi.1.cls = RX5) (hd : decode Mi.2.1 pc = .ok (.invokevirtual 170, 3)) (hc : CtL K mX5_sixths dc [.ref (kA K 19), a1] σ post) (hdc : Nat.blt dc d = true) (h8 : Nat.ble (rest.map fun v => v.category).sum 8 = true) (kk : ∀ (r : Int) (σ' : Sto), post r σ' → V K E Mi (pc + 3) L (.long (i64 r) :: rest) σ') : V K E Mi pc L (a1 :: .ref (kA K 19) :: rest) σ :=
  V_callL hE (run_V (k := 19) (n := 1) (As := [a1]) hE rfl rfl (by rw [ho]; exact tw_ml_X5_170) tw_ins_X5_sixths tw_sel_X5_sixths tw_ini_X5 tw_cod_X5_sixths nm_X5_sixths hdc rfl h8 hc hd) kk
theorem cf_X5_170 {K : Ctx} {E : ME} {Mi : MI} {d dc pc : Nat} {L : List (Option Value)} {rest : List Value} {σ : Sto} {a1 : Value} {R0 : Int} {S : Sto} (hE : Ok K E Mi d) (ho : Mi.1.cls = RX5) (hd : decode Mi.2.1 pc = .ok (.invokevirtual 170, 3)) (hc : CtL K mX5_sixths dc [.ref (kA K 19), a1] σ (fun r σ' => r = R0 ∧ σ' = S)) (hdc : Nat.blt dc d = true) (h8 : Nat.ble (rest.map fun v => v.category).sum 8 = true) (kk : V K E Mi (pc + 3) L (.long (i64 R0) :: rest) S) : V K E Mi pc L (a1 :: .ref (kA K 19) :: rest) σ :=
  cl_X5_170 hE ho hd hc hdc h8 (fun _ _ h => by rw [h.1, h.2]; exact kk)
theorem nm_X5_isWhich : NmOk mX5_isWhich 1 := ⟨⟨by decide +kernel, by decide +kernel, by decide +kernel⟩, by decide⟩
theorem cl_X5_174 {K : Ctx} {E : ME} {Mi : MI} {d dc pc : Nat} {L : List (Option Value)} {rest : List Value} {σ : Sto} {a1 : Value} {post : Int → Sto → Prop} (hE : Ok K E Mi d) (ho : Mi.1.cls = RX5) (hd : decode Mi.2.1 pc = .ok (.invokestatic 174, 3)) (hc : CtI K mX5_isWhich dc [a1] σ post) (hdc : Nat.blt dc d = true) (h8 : Nat.ble (rest.map fun v => v.category).sum 8 = true) (kk : ∀ (r : Int) (σ' : Sto), post r σ' → V K E Mi (pc + 3) L (.int (i32 r) :: rest) σ') : V K E Mi pc L (a1 :: rest) σ :=
  V_callI hE (run_S (n := 1) (As := [a1]) hE (by rw [ho]; exact tw_ml_X5_174) tw_sta_X5_isWhich tw_ini_X5 tw_cod_X5_isWhich nm_X5_isWhich hdc rfl h8 hc hd) kk
theorem cf_X5_174 {K : Ctx} {E : ME} {Mi : MI} {d dc pc : Nat} {L : List (Option Value)} {rest : List Value} {σ : Sto} {a1 : Value} {R0 : Int} {S : Sto} (hE : Ok K E Mi d) (ho : Mi.1.cls = RX5) (hd : decode Mi.2.1 pc = .ok (.invokestatic 174, 3)) (hc : CtI K mX5_isWhich dc [a1] σ (fun r σ' => r = R0 ∧ σ' = S)) (hdc : Nat.blt dc d = true) (h8 : Nat.ble (rest.map fun v => v.category).sum 8 = true) (kk : V K E Mi (pc + 3) L (.int (i32 R0) :: rest) S) : V K E Mi pc L (a1 :: rest) σ :=
  cl_X5_174 hE ho hd hc hdc h8 (fun _ _ h => by rw [h.1, h.2]; exact kk)
theorem nm_X5_sumOf : NmOk mX5_sumOf 2 := ⟨⟨by decide +kernel, by decide +kernel, by decide +kernel⟩, by decide⟩
theorem cl_X5_179 {K : Ctx} {E : ME} {Mi : MI} {d dc pc : Nat} {L : List (Option Value)} {rest : List Value} {σ : Sto} {a1 a2 : Value} {post : Int → Sto → Prop} (hE : Ok K E Mi d) (ho : Mi.1.cls = RX5) (hd : decode Mi.2.1 pc = .ok (.invokevirtual 179, 3)) (hc : CtL K mX5_sumOf dc [.ref (kA K 19), a1, a2] σ post) (hdc : Nat.blt dc d = true) (h8 : Nat.ble (rest.map fun v => v.category).sum 8 = true) (kk : ∀ (r : Int) (σ' : Sto), post r σ' → V K E Mi (pc + 3) L (.long (i64 r) :: rest) σ') : V K E Mi pc L (a2 :: a1 :: .ref (kA K 19) :: rest) σ :=
  V_callL hE (run_V (k := 19) (n := 2) (As := [a1, a2]) hE rfl rfl (by rw [ho]; exact tw_ml_X5_179) tw_ins_X5_sumOf tw_sel_X5_sumOf tw_ini_X5 tw_cod_X5_sumOf nm_X5_sumOf hdc rfl h8 hc hd) kk
theorem cf_X5_179 {K : Ctx} {E : ME} {Mi : MI} {d dc pc : Nat} {L : List (Option Value)} {rest : List Value} {σ : Sto} {a1 a2 : Value} {R0 : Int} {S : Sto} (hE : Ok K E Mi d) (ho : Mi.1.cls = RX5) (hd : decode Mi.2.1 pc = .ok (.invokevirtual 179, 3)) (hc : CtL K mX5_sumOf dc [.ref (kA K 19), a1, a2] σ (fun r σ' => r = R0 ∧ σ' = S)) (hdc : Nat.blt dc d = true) (h8 : Nat.ble (rest.map fun v => v.category).sum 8 = true) (kk : V K E Mi (pc + 3) L (.long (i64 R0) :: rest) S) : V K E Mi pc L (a2 :: a1 :: .ref (kA K 19) :: rest) σ :=
  cl_X5_179 hE ho hd hc hdc h8 (fun _ _ h => by rw [h.1, h.2]; exact kk)
theorem nm_X5_told : NmOk mX5_told 3 := ⟨⟨by decide +kernel, by decide +kernel, by decide +kernel⟩, by decide⟩
theorem cl_X5_185 {K : Ctx} {E : ME} {Mi : MI} {d dc pc : Nat} {L : List (Option Value)} {rest : List Value} {σ : Sto} {a1 a2 a3 : Value} {post : Int → Sto → Prop} (hE : Ok K E Mi d) (ho : Mi.1.cls = RX5) (hd : decode Mi.2.1 pc = .ok (.invokestatic 185, 3)) (hc : CtL K mX5_told dc [a1, a2, a3] σ post) (hdc : Nat.blt dc d = true) (h8 : Nat.ble (rest.map fun v => v.category).sum 8 = true) (kk : ∀ (r : Int) (σ' : Sto), post r σ' → V K E Mi (pc + 3) L (.long (i64 r) :: rest) σ') : V K E Mi pc L (a3 :: a2 :: a1 :: rest) σ :=
  V_callL hE (run_S (n := 3) (As := [a1, a2, a3]) hE (by rw [ho]; exact tw_ml_X5_185) tw_sta_X5_told tw_ini_X5 tw_cod_X5_told nm_X5_told hdc rfl h8 hc hd) kk
theorem cf_X5_185 {K : Ctx} {E : ME} {Mi : MI} {d dc pc : Nat} {L : List (Option Value)} {rest : List Value} {σ : Sto} {a1 a2 a3 : Value} {R0 : Int} {S : Sto} (hE : Ok K E Mi d) (ho : Mi.1.cls = RX5) (hd : decode Mi.2.1 pc = .ok (.invokestatic 185, 3)) (hc : CtL K mX5_told dc [a1, a2, a3] σ (fun r σ' => r = R0 ∧ σ' = S)) (hdc : Nat.blt dc d = true) (h8 : Nat.ble (rest.map fun v => v.category).sum 8 = true) (kk : V K E Mi (pc + 3) L (.long (i64 R0) :: rest) S) : V K E Mi pc L (a3 :: a2 :: a1 :: rest) σ :=
  cl_X5_185 hE ho hd hc hdc h8 (fun _ _ h => by rw [h.1, h.2]; exact kk)
theorem nm_X5_isBreadth : NmOk mX5_isBreadth 1 := ⟨⟨by decide +kernel, by decide +kernel, by decide +kernel⟩, by decide⟩
theorem cl_X5_198 {K : Ctx} {E : ME} {Mi : MI} {d dc pc : Nat} {L : List (Option Value)} {rest : List Value} {σ : Sto} {a1 : Value} {post : Int → Sto → Prop} (hE : Ok K E Mi d) (ho : Mi.1.cls = RX5) (hd : decode Mi.2.1 pc = .ok (.invokestatic 198, 3)) (hc : CtI K mX5_isBreadth dc [a1] σ post) (hdc : Nat.blt dc d = true) (h8 : Nat.ble (rest.map fun v => v.category).sum 8 = true) (kk : ∀ (r : Int) (σ' : Sto), post r σ' → V K E Mi (pc + 3) L (.int (i32 r) :: rest) σ') : V K E Mi pc L (a1 :: rest) σ :=
  V_callI hE (run_S (n := 1) (As := [a1]) hE (by rw [ho]; exact tw_ml_X5_198) tw_sta_X5_isBreadth tw_ini_X5 tw_cod_X5_isBreadth nm_X5_isBreadth hdc rfl h8 hc hd) kk
theorem cf_X5_198 {K : Ctx} {E : ME} {Mi : MI} {d dc pc : Nat} {L : List (Option Value)} {rest : List Value} {σ : Sto} {a1 : Value} {R0 : Int} {S : Sto} (hE : Ok K E Mi d) (ho : Mi.1.cls = RX5) (hd : decode Mi.2.1 pc = .ok (.invokestatic 198, 3)) (hc : CtI K mX5_isBreadth dc [a1] σ (fun r σ' => r = R0 ∧ σ' = S)) (hdc : Nat.blt dc d = true) (h8 : Nat.ble (rest.map fun v => v.category).sum 8 = true) (kk : V K E Mi (pc + 3) L (.int (i32 R0) :: rest) S) : V K E Mi pc L (a1 :: rest) σ :=
  cl_X5_198 hE ho hd hc hdc h8 (fun _ _ h => by rw [h.1, h.2]; exact kk)
theorem nm_X5_findHeight : NmOk mX5_findHeight 2 := ⟨⟨by decide +kernel, by decide +kernel, by decide +kernel⟩, by decide⟩
theorem cl_X5_201 {K : Ctx} {E : ME} {Mi : MI} {d dc pc : Nat} {L : List (Option Value)} {rest : List Value} {σ : Sto} {a1 a2 : Value} {post : Int → Sto → Prop} (hE : Ok K E Mi d) (ho : Mi.1.cls = RX5) (hd : decode Mi.2.1 pc = .ok (.invokevirtual 201, 3)) (hc : CtI K mX5_findHeight dc [.ref (kA K 19), a1, a2] σ post) (hdc : Nat.blt dc d = true) (h8 : Nat.ble (rest.map fun v => v.category).sum 8 = true) (kk : ∀ (r : Int) (σ' : Sto), post r σ' → V K E Mi (pc + 3) L (.int (i32 r) :: rest) σ') : V K E Mi pc L (a2 :: a1 :: .ref (kA K 19) :: rest) σ :=
  V_callI hE (run_V (k := 19) (n := 2) (As := [a1, a2]) hE rfl rfl (by rw [ho]; exact tw_ml_X5_201) tw_ins_X5_findHeight tw_sel_X5_findHeight tw_ini_X5 tw_cod_X5_findHeight nm_X5_findHeight hdc rfl h8 hc hd) kk
theorem cf_X5_201 {K : Ctx} {E : ME} {Mi : MI} {d dc pc : Nat} {L : List (Option Value)} {rest : List Value} {σ : Sto} {a1 a2 : Value} {R0 : Int} {S : Sto} (hE : Ok K E Mi d) (ho : Mi.1.cls = RX5) (hd : decode Mi.2.1 pc = .ok (.invokevirtual 201, 3)) (hc : CtI K mX5_findHeight dc [.ref (kA K 19), a1, a2] σ (fun r σ' => r = R0 ∧ σ' = S)) (hdc : Nat.blt dc d = true) (h8 : Nat.ble (rest.map fun v => v.category).sum 8 = true) (kk : V K E Mi (pc + 3) L (.int (i32 R0) :: rest) S) : V K E Mi pc L (a2 :: a1 :: .ref (kA K 19) :: rest) σ :=
  cl_X5_201 hE ho hd hc hdc h8 (fun _ _ h => by rw [h.1, h.2]; exact kk)
theorem nm_X5_isBreak : NmOk mX5_isBreak 1 := ⟨⟨by decide +kernel, by decide +kernel, by decide +kernel⟩, by decide⟩
theorem cl_X5_208 {K : Ctx} {E : ME} {Mi : MI} {d dc pc : Nat} {L : List (Option Value)} {rest : List Value} {σ : Sto} {a1 : Value} {post : Int → Sto → Prop} (hE : Ok K E Mi d) (ho : Mi.1.cls = RX5) (hd : decode Mi.2.1 pc = .ok (.invokevirtual 208, 3)) (hc : CtI K mX5_isBreak dc [.ref (kA K 19), a1] σ post) (hdc : Nat.blt dc d = true) (h8 : Nat.ble (rest.map fun v => v.category).sum 8 = true) (kk : ∀ (r : Int) (σ' : Sto), post r σ' → V K E Mi (pc + 3) L (.int (i32 r) :: rest) σ') : V K E Mi pc L (a1 :: .ref (kA K 19) :: rest) σ :=
  V_callI hE (run_V (k := 19) (n := 1) (As := [a1]) hE rfl rfl (by rw [ho]; exact tw_ml_X5_208) tw_ins_X5_isBreak tw_sel_X5_isBreak tw_ini_X5 tw_cod_X5_isBreak nm_X5_isBreak hdc rfl h8 hc hd) kk
theorem cf_X5_208 {K : Ctx} {E : ME} {Mi : MI} {d dc pc : Nat} {L : List (Option Value)} {rest : List Value} {σ : Sto} {a1 : Value} {R0 : Int} {S : Sto} (hE : Ok K E Mi d) (ho : Mi.1.cls = RX5) (hd : decode Mi.2.1 pc = .ok (.invokevirtual 208, 3)) (hc : CtI K mX5_isBreak dc [.ref (kA K 19), a1] σ (fun r σ' => r = R0 ∧ σ' = S)) (hdc : Nat.blt dc d = true) (h8 : Nat.ble (rest.map fun v => v.category).sum 8 = true) (kk : V K E Mi (pc + 3) L (.int (i32 R0) :: rest) S) : V K E Mi pc L (a1 :: .ref (kA K 19) :: rest) σ :=
  cl_X5_208 hE ho hd hc hdc h8 (fun _ _ h => by rw [h.1, h.2]; exact kk)
theorem nm_X5_breaksAt : NmOk mX5_breaksAt 1 := ⟨⟨by decide +kernel, by decide +kernel, by decide +kernel⟩, by decide⟩
theorem cl_X5_211 {K : Ctx} {E : ME} {Mi : MI} {d dc pc : Nat} {L : List (Option Value)} {rest : List Value} {σ : Sto} {a1 : Value} {post : Int → Sto → Prop} (hE : Ok K E Mi d) (ho : Mi.1.cls = RX5) (hd : decode Mi.2.1 pc = .ok (.invokevirtual 211, 3)) (hc : CtI K mX5_breaksAt dc [.ref (kA K 19), a1] σ post) (hdc : Nat.blt dc d = true) (h8 : Nat.ble (rest.map fun v => v.category).sum 8 = true) (kk : ∀ (r : Int) (σ' : Sto), post r σ' → V K E Mi (pc + 3) L (.int (i32 r) :: rest) σ') : V K E Mi pc L (a1 :: .ref (kA K 19) :: rest) σ :=
  V_callI hE (run_V (k := 19) (n := 1) (As := [a1]) hE rfl rfl (by rw [ho]; exact tw_ml_X5_211) tw_ins_X5_breaksAt tw_sel_X5_breaksAt tw_ini_X5 tw_cod_X5_breaksAt nm_X5_breaksAt hdc rfl h8 hc hd) kk
theorem cf_X5_211 {K : Ctx} {E : ME} {Mi : MI} {d dc pc : Nat} {L : List (Option Value)} {rest : List Value} {σ : Sto} {a1 : Value} {R0 : Int} {S : Sto} (hE : Ok K E Mi d) (ho : Mi.1.cls = RX5) (hd : decode Mi.2.1 pc = .ok (.invokevirtual 211, 3)) (hc : CtI K mX5_breaksAt dc [.ref (kA K 19), a1] σ (fun r σ' => r = R0 ∧ σ' = S)) (hdc : Nat.blt dc d = true) (h8 : Nat.ble (rest.map fun v => v.category).sum 8 = true) (kk : V K E Mi (pc + 3) L (.int (i32 R0) :: rest) S) : V K E Mi pc L (a1 :: .ref (kA K 19) :: rest) σ :=
  cl_X5_211 hE ho hd hc hdc h8 (fun _ _ h => by rw [h.1, h.2]; exact kk)
theorem nm_X5_manyHeld : NmOk mX5_manyHeld 0 := ⟨⟨by decide +kernel, by decide +kernel, by decide +kernel⟩, by decide⟩
theorem cl_X5_214 {K : Ctx} {E : ME} {Mi : MI} {d dc pc : Nat} {L : List (Option Value)} {rest : List Value} {σ : Sto} {post : Int → Sto → Prop} (hE : Ok K E Mi d) (ho : Mi.1.cls = RX5) (hd : decode Mi.2.1 pc = .ok (.invokevirtual 214, 3)) (hc : CtI K mX5_manyHeld dc [.ref (kA K 19)] σ post) (hdc : Nat.blt dc d = true) (h8 : Nat.ble (rest.map fun v => v.category).sum 8 = true) (kk : ∀ (r : Int) (σ' : Sto), post r σ' → V K E Mi (pc + 3) L (.int (i32 r) :: rest) σ') : V K E Mi pc L (.ref (kA K 19) :: rest) σ :=
  V_callI hE (run_V (k := 19) (n := 0) (As := []) hE rfl rfl (by rw [ho]; exact tw_ml_X5_214) tw_ins_X5_manyHeld tw_sel_X5_manyHeld tw_ini_X5 tw_cod_X5_manyHeld nm_X5_manyHeld hdc rfl h8 hc hd) kk
theorem cf_X5_214 {K : Ctx} {E : ME} {Mi : MI} {d dc pc : Nat} {L : List (Option Value)} {rest : List Value} {σ : Sto} {R0 : Int} {S : Sto} (hE : Ok K E Mi d) (ho : Mi.1.cls = RX5) (hd : decode Mi.2.1 pc = .ok (.invokevirtual 214, 3)) (hc : CtI K mX5_manyHeld dc [.ref (kA K 19)] σ (fun r σ' => r = R0 ∧ σ' = S)) (hdc : Nat.blt dc d = true) (h8 : Nat.ble (rest.map fun v => v.category).sum 8 = true) (kk : V K E Mi (pc + 3) L (.int (i32 R0) :: rest) S) : V K E Mi pc L (.ref (kA K 19) :: rest) σ :=
  cl_X5_214 hE ho hd hc hdc h8 (fun _ _ h => by rw [h.1, h.2]; exact kk)
theorem nm_X5_manyRough : NmOk mX5_manyRough 0 := ⟨⟨by decide +kernel, by decide +kernel, by decide +kernel⟩, by decide⟩
theorem cl_X5_217 {K : Ctx} {E : ME} {Mi : MI} {d dc pc : Nat} {L : List (Option Value)} {rest : List Value} {σ : Sto} {post : Int → Sto → Prop} (hE : Ok K E Mi d) (ho : Mi.1.cls = RX5) (hd : decode Mi.2.1 pc = .ok (.invokevirtual 217, 3)) (hc : CtI K mX5_manyRough dc [.ref (kA K 19)] σ post) (hdc : Nat.blt dc d = true) (h8 : Nat.ble (rest.map fun v => v.category).sum 8 = true) (kk : ∀ (r : Int) (σ' : Sto), post r σ' → V K E Mi (pc + 3) L (.int (i32 r) :: rest) σ') : V K E Mi pc L (.ref (kA K 19) :: rest) σ :=
  V_callI hE (run_V (k := 19) (n := 0) (As := []) hE rfl rfl (by rw [ho]; exact tw_ml_X5_217) tw_ins_X5_manyRough tw_sel_X5_manyRough tw_ini_X5 tw_cod_X5_manyRough nm_X5_manyRough hdc rfl h8 hc hd) kk
theorem cf_X5_217 {K : Ctx} {E : ME} {Mi : MI} {d dc pc : Nat} {L : List (Option Value)} {rest : List Value} {σ : Sto} {R0 : Int} {S : Sto} (hE : Ok K E Mi d) (ho : Mi.1.cls = RX5) (hd : decode Mi.2.1 pc = .ok (.invokevirtual 217, 3)) (hc : CtI K mX5_manyRough dc [.ref (kA K 19)] σ (fun r σ' => r = R0 ∧ σ' = S)) (hdc : Nat.blt dc d = true) (h8 : Nat.ble (rest.map fun v => v.category).sum 8 = true) (kk : V K E Mi (pc + 3) L (.int (i32 R0) :: rest) S) : V K E Mi pc L (.ref (kA K 19) :: rest) σ :=
  cl_X5_217 hE ho hd hc hdc h8 (fun _ _ h => by rw [h.1, h.2]; exact kk)
theorem nm_X5_farOff : NmOk mX5_farOff 0 := ⟨⟨by decide +kernel, by decide +kernel, by decide +kernel⟩, by decide⟩
theorem cl_X5_220 {K : Ctx} {E : ME} {Mi : MI} {d dc pc : Nat} {L : List (Option Value)} {rest : List Value} {σ : Sto} {post : Int → Sto → Prop} (hE : Ok K E Mi d) (ho : Mi.1.cls = RX5) (hd : decode Mi.2.1 pc = .ok (.invokevirtual 220, 3)) (hc : CtI K mX5_farOff dc [.ref (kA K 19)] σ post) (hdc : Nat.blt dc d = true) (h8 : Nat.ble (rest.map fun v => v.category).sum 8 = true) (kk : ∀ (r : Int) (σ' : Sto), post r σ' → V K E Mi (pc + 3) L (.int (i32 r) :: rest) σ') : V K E Mi pc L (.ref (kA K 19) :: rest) σ :=
  V_callI hE (run_V (k := 19) (n := 0) (As := []) hE rfl rfl (by rw [ho]; exact tw_ml_X5_220) tw_ins_X5_farOff tw_sel_X5_farOff tw_ini_X5 tw_cod_X5_farOff nm_X5_farOff hdc rfl h8 hc hd) kk
theorem cf_X5_220 {K : Ctx} {E : ME} {Mi : MI} {d dc pc : Nat} {L : List (Option Value)} {rest : List Value} {σ : Sto} {R0 : Int} {S : Sto} (hE : Ok K E Mi d) (ho : Mi.1.cls = RX5) (hd : decode Mi.2.1 pc = .ok (.invokevirtual 220, 3)) (hc : CtI K mX5_farOff dc [.ref (kA K 19)] σ (fun r σ' => r = R0 ∧ σ' = S)) (hdc : Nat.blt dc d = true) (h8 : Nat.ble (rest.map fun v => v.category).sum 8 = true) (kk : V K E Mi (pc + 3) L (.int (i32 R0) :: rest) S) : V K E Mi pc L (.ref (kA K 19) :: rest) σ :=
  cl_X5_220 hE ho hd hc hdc h8 (fun _ _ h => by rw [h.1, h.2]; exact kk)
end
section
/-! PURE WORDS: bends, jumps, frames -/
def bd (f : Nat → Int) (i : Int) : Int := f (i - 1).toNat + f (i + 1).toNat - 2 * f i.toNat
def jm (f : Nat → Int) (i : Int) : Int := bd f (i + 1) - bd f i
def Rng (f : Nat → Int) : Prop := ∀ i, 0 ≤ f i ∧ f i ≤ 999
theorem bd_rng {f : Nat → Int} (h : Rng f) (i : Int) : -1998 ≤ bd f i ∧ bd f i ≤ 1998 := by
  have h1 := h (i - 1).toNat
  have h2 := h (i + 1).toNat
  have h3 := h i.toNat
  unfold bd
  omega
theorem jm_rng {f : Nat → Int} (h : Rng f) (i : Int) : -7992 ≤ jm f i ∧ jm f i ≤ 7992 := by
  have h1 := bd_rng h i
  have h2 := bd_rng h (i + 1)
  unfold jm
  omega
def pt (v k i : Int) : Int := if v = 0 then 7 * i + k else 7 * k + i
def Fr (ks : List Nat) (σ σ' : Sto) : Prop := ∀ k, k ∉ ks → σ' k = σ k
theorem Fr_rf {ks : List Nat} {σ : Sto} : Fr ks σ σ := fun _ _ => rfl
theorem Fr_up {ks : List Nat} {σ σ1 : Sto} {k i : Nat} {v : Int} (h : Fr ks σ σ1) (hk : k ∈ ks) : Fr ks σ (up σ1 k i v) := fun k' h' => by
  have e : k' ≠ k := fun e => h' (by rw [e]; exact hk)
  rw [up_ne σ1 i v e]
  exact h k' h'
theorem Fr_tr {ks js : List Nat} {σ σ1 σ2 : Sto} (h : Fr ks σ σ1) (h2 : Fr js σ1 σ2) (hs : ∀ k ∈ js, k ∈ ks) : Fr ks σ σ2 := fun k hk => by
  rw [h2 k (fun q => hk (hs k q))]
  exact h k hk
theorem Fr_sub {ks js : List Nat} {σ σ1 : Sto} (h : Fr js σ σ1) (hs : ∀ k ∈ js, k ∈ ks) : Fr ks σ σ1 := fun k hk => h k (fun q => hk (hs k q))
theorem up_at (σ : Sto) (k i j : Nat) (v : Int) : up σ k i v k j = if j = i then v else σ k j := by simp [up]
theorem Rng_up {σ : Sto} {k i : Nat} {v : Int} (h : Rng (σ k)) (hv : 0 ≤ v ∧ v ≤ 999) : Rng (up σ k i v k) := fun j => by
  rw [up_at]
  have := h j
  split <;> assumption
theorem jm_congr {f g : Nat → Int} {n : Int} (h : ∀ i : Nat, (i : Int) < n → f i = g i) {i : Int} (hi : 1 ≤ i ∧ i ≤ n - 3) : jm f i = jm g i := by
  unfold jm bd
  rw [h (i + 1 - 1).toNat (by omega), h (i + 1 + 1).toNat (by omega), h (i + 1).toNat (by omega), h (i - 1).toNat (by omega), h i.toNat (by omega)]
theorem bd_congr {f g : Nat → Int} {n : Int} (h : ∀ i : Nat, (i : Int) < n → f i = g i) {i : Int} (hi : 1 ≤ i ∧ i ≤ n - 2) : bd f i = bd g i := by
  unfold bd
  rw [h (i + 1).toNat (by omega), h (i - 1).toNat (by omega), h i.toNat (by omega)]
/-- the reference's own state is as it should be -/
def IM (σ : Sto) : Prop := (5 ≤ σ 110 0 ∧ σ 110 0 ≤ 9) ∧ (4 ≤ σ 111 0 ∧ σ 111 0 ≤ 7) ∧ (0 ≤ σ 112 0 ∧ σ 112 0 ≤ 999) ∧ (0 ≤ σ 113 0 ∧ σ 113 0 ≤ 3) ∧ (1 ≤ σ 114 0 ∧ σ 114 0 ≤ 99) ∧ (1 ≤ σ 115 0 ∧ σ 115 0 ≤ 99) ∧ Rng (σ 20) ∧ Rng (σ 21) ∧ (∀ i, σ 22 i = 0 ∨ σ 22 i = 1) ∧ Rng (σ 24)
section VSW
variable {K : Ctx} {E : ME} {Mi : MI} {d pc : Nat} {L : List (Option Value)} {st : List Value} {σ : Sto}
theorem V_sw3 (hE : Ok K E Mi d) {a dflt hi : Int} {offs : Array Int} {len : Nat} (t0 t1 t2 td : Nat) (hd : decode Mi.2.1 pc = .ok (.tableswitch dflt 0 hi offs, len)) (hr : InI a) (hh : hi = 2) (ht : offs.toList.map (fun o => (pc : Int) + o) = [(t0 : Int), t1, t2]) (htd : (pc : Int) + dflt = (td : Int))
    (kd : a < 0 ∨ 2 < a → V K E Mi td L st σ) (k0 : a = 0 → V K E Mi t0 L st σ) (k1 : a = 1 → V K E Mi t1 L st σ) (k2 : a = 2 → V K E Mi t2 L st σ) : V K E Mi pc L (.int (i32 a) :: st) σ := by
  subst hh
  have key : ∀ (j : Nat) (t : Nat), ([(t0 : Int), t1, t2])[j]? = some (t : Int) → ∃ off, offs[j]? = some off ∧ (pc : Int) + off = (t : Int) := by
    intro j t h
    rw [← ht, List.getElem?_map, Array.getElem?_toList] at h
    cases ho : offs[j]? with
    | none => rw [ho] at h; simp at h
    | some o => rw [ho] at h; exact ⟨o, rfl, by simpa using h⟩
  rcases (show (a < 0 ∨ 2 < a) ∨ a = 0 ∨ a = 1 ∨ a = 2 by omega) with h | h | h | h
  · exact V_tableOut hE td hd hr h htd (kd h)
  · obtain ⟨o, h1, h2⟩ := key 0 t0 rfl
    exact V_tableIn hE t0 hd hr (by omega) (by omega) (by rw [show (a - 0).toNat = 0 by omega]; exact h1) h2 (k0 h)
  · obtain ⟨o, h1, h2⟩ := key 1 t1 rfl
    exact V_tableIn hE t1 hd hr (by omega) (by omega) (by rw [show (a - 0).toNat = 1 by omega]; exact h1) h2 (k1 h)
  · obtain ⟨o, h1, h2⟩ := key 2 t2 rfl
    exact V_tableIn hE t2 hd hr (by omega) (by omega) (by rw [show (a - 0).toNat = 2 by omega]; exact h1) h2 (k2 h)
theorem V_sw4 (hE : Ok K E Mi d) {a dflt hi : Int} {offs : Array Int} {len : Nat} (t0 t1 t2 t3 td : Nat) (hd : decode Mi.2.1 pc = .ok (.tableswitch dflt 0 hi offs, len)) (hr : InI a) (hh : hi = 3) (ht : offs.toList.map (fun o => (pc : Int) + o) = [(t0 : Int), t1, t2, t3]) (htd : (pc : Int) + dflt = (td : Int))
    (kd : a < 0 ∨ 3 < a → V K E Mi td L st σ) (k0 : a = 0 → V K E Mi t0 L st σ) (k1 : a = 1 → V K E Mi t1 L st σ) (k2 : a = 2 → V K E Mi t2 L st σ) (k3 : a = 3 → V K E Mi t3 L st σ) : V K E Mi pc L (.int (i32 a) :: st) σ := by
  subst hh
  have key : ∀ (j : Nat) (t : Nat), ([(t0 : Int), t1, t2, t3])[j]? = some (t : Int) → ∃ off, offs[j]? = some off ∧ (pc : Int) + off = (t : Int) := by
    intro j t h
    rw [← ht, List.getElem?_map, Array.getElem?_toList] at h
    cases ho : offs[j]? with
    | none => rw [ho] at h; simp at h
    | some o => rw [ho] at h; exact ⟨o, rfl, by simpa using h⟩
  rcases (show (a < 0 ∨ 3 < a) ∨ a = 0 ∨ a = 1 ∨ a = 2 ∨ a = 3 by omega) with h | h | h | h | h
  · exact V_tableOut hE td hd hr h htd (kd h)
  · obtain ⟨o, h1, h2⟩ := key 0 t0 rfl
    exact V_tableIn hE t0 hd hr (by omega) (by omega) (by rw [show (a - 0).toNat = 0 by omega]; exact h1) h2 (k0 h)
  · obtain ⟨o, h1, h2⟩ := key 1 t1 rfl
    exact V_tableIn hE t1 hd hr (by omega) (by omega) (by rw [show (a - 0).toNat = 1 by omega]; exact h1) h2 (k1 h)
  · obtain ⟨o, h1, h2⟩ := key 2 t2 rfl
    exact V_tableIn hE t2 hd hr (by omega) (by omega) (by rw [show (a - 0).toNat = 2 by omega]; exact h1) h2 (k2 h)
  · obtain ⟨o, h1, h2⟩ := key 3 t3 rfl
    exact V_tableIn hE t3 hd hr (by omega) (by omega) (by rw [show (a - 0).toNat = 3 by omega]; exact h1) h2 (k3 h)
theorem V_sw5 (hE : Ok K E Mi d) {a dflt hi : Int} {offs : Array Int} {len : Nat} (t0 t1 t2 t3 t4 td : Nat) (hd : decode Mi.2.1 pc = .ok (.tableswitch dflt 0 hi offs, len)) (hr : InI a) (hh : hi = 4) (ht : offs.toList.map (fun o => (pc : Int) + o) = [(t0 : Int), t1, t2, t3, t4]) (htd : (pc : Int) + dflt = (td : Int))
    (kd : a < 0 ∨ 4 < a → V K E Mi td L st σ) (k0 : a = 0 → V K E Mi t0 L st σ) (k1 : a = 1 → V K E Mi t1 L st σ) (k2 : a = 2 → V K E Mi t2 L st σ) (k3 : a = 3 → V K E Mi t3 L st σ) (k4 : a = 4 → V K E Mi t4 L st σ) : V K E Mi pc L (.int (i32 a) :: st) σ := by
  subst hh
  have key : ∀ (j : Nat) (t : Nat), ([(t0 : Int), t1, t2, t3, t4])[j]? = some (t : Int) → ∃ off, offs[j]? = some off ∧ (pc : Int) + off = (t : Int) := by
    intro j t h
    rw [← ht, List.getElem?_map, Array.getElem?_toList] at h
    cases ho : offs[j]? with
    | none => rw [ho] at h; simp at h
    | some o => rw [ho] at h; exact ⟨o, rfl, by simpa using h⟩
  rcases (show (a < 0 ∨ 4 < a) ∨ a = 0 ∨ a = 1 ∨ a = 2 ∨ a = 3 ∨ a = 4 by omega) with h | h | h | h | h | h
  · exact V_tableOut hE td hd hr h htd (kd h)
  · obtain ⟨o, h1, h2⟩ := key 0 t0 rfl
    exact V_tableIn hE t0 hd hr (by omega) (by omega) (by rw [show (a - 0).toNat = 0 by omega]; exact h1) h2 (k0 h)
  · obtain ⟨o, h1, h2⟩ := key 1 t1 rfl
    exact V_tableIn hE t1 hd hr (by omega) (by omega) (by rw [show (a - 0).toNat = 1 by omega]; exact h1) h2 (k1 h)
  · obtain ⟨o, h1, h2⟩ := key 2 t2 rfl
    exact V_tableIn hE t2 hd hr (by omega) (by omega) (by rw [show (a - 0).toNat = 2 by omega]; exact h1) h2 (k2 h)
  · obtain ⟨o, h1, h2⟩ := key 3 t3 rfl
    exact V_tableIn hE t3 hd hr (by omega) (by omega) (by rw [show (a - 0).toNat = 3 by omega]; exact h1) h2 (k3 h)
  · obtain ⟨o, h1, h2⟩ := key 4 t4 rfl
    exact V_tableIn hE t4 hd hr (by omega) (by omega) (by rw [show (a - 0).toNat = 4 by omega]; exact h1) h2 (k4 h)
end VSW
end
section
set_option maxRecDepth 100000 in
set_option maxHeartbeats 4000000 in
theorem c_X5_far {K : Ctx} {σ : Sto} {v : Int} (hv : InI v) : CtI K mX5_far 0 [.int (i32 v)] σ (fun r σ' => r = ((v.natAbs : Nat) : Int) ∧ σ' = σ) := by
  refine CtI_of (L := [some (.int (i32 v))]) (by decide) rfl rfl rfl ?_
  intro E hE hR
  refine V_iload_n hE dX5_far_0 rfl ?_
  refine V_if_ge hE 9 dX5_far_1 (by decide) (by omega) (fun h1 => ?_) (fun h1 => ?_)
  · refine V_iload_n hE dX5_far_9 rfl ?_
    refine V_ireturn hR dX5_far_10 ?_
    exact ⟨by omega, rfl⟩
  · refine V_iload_n hE dX5_far_4 rfl ?_
    refine V_ineg hE dX5_far_5 ?_
    refine V_goto hE 10 dX5_far_6 (by decide) ?_
    refine V_ireturn hR dX5_far_10 ?_
    exact ⟨by omega, rfl⟩
set_option maxRecDepth 100000 in
set_option maxHeartbeats 4000000 in
theorem c_X5_within {K : Ctx} {σ : Sto} {v a b : Int} (hv : InL v ∧ InL a ∧ InL b) : CtI K mX5_within 0 [.long (i64 v), .long (i64 a), .long (i64 b)] σ (fun r σ' => r = (if a ≤ v ∧ v ≤ b then 1 else 0) ∧ σ' = σ) := by
  refine CtZ_of (L := [some (.long (i64 v)), none, some (.long (i64 a)), none, some (.long (i64 b)), none]) (by decide) rfl rfl rfl ?_
  intro E hE hR
  refine V_lload_n hE dX5_within_0 rfl ?_
  refine V_lload_n hE dX5_within_1 rfl ?_
  refine V_lcmp_lt hE 17 dX5_within_2 dX5_within_3 (by decide) (by omega) (fun h2 => ?_) (fun h2 => ?_)
  · refine V_iconst hE dX5_within_17 ?_
    refine V_zreturn hR dX5_within_18 (by omega) ?_
    exact ⟨by omega, rfl⟩
  · refine V_lload_n hE dX5_within_6 rfl ?_
    refine V_lload hE dX5_within_7 rfl ?_
    refine V_lcmp_gt hE 17 dX5_within_9 dX5_within_10 (by decide) (by omega) (fun h9 => ?_) (fun h9 => ?_)
    · refine V_iconst hE dX5_within_17 ?_
      refine V_zreturn hR dX5_within_18 (by omega) ?_
      exact ⟨by omega, rfl⟩
    · refine V_iconst hE dX5_within_13 ?_
      refine V_goto hE 18 dX5_within_14 (by decide) ?_
      refine V_zreturn hR dX5_within_18 (by omega) ?_
      exact ⟨by omega, rfl⟩
set_option maxRecDepth 100000 in
set_option maxHeartbeats 4000000 in
theorem c_X5_isOffset {K : Ctx} {σ : Sto} {v : Int} (hv : InI v) : CtI K mX5_isOffset 1 [.int (i32 v)] σ (fun r σ' => r = (if 0 ≤ v ∧ v ≤ 999 then 1 else 0) ∧ σ' = σ) := by
  refine CtZ_of (L := [some (.int (i32 v))]) (by decide) rfl rfl rfl ?_
  intro E hE hR
  refine V_iload_n hE dX5_isOffset_0 rfl ?_
  refine V_i2l hE dX5_isOffset_1 (by omega) ?_
  refine V_lconst0 hE dX5_isOffset_2 ?_
  refine V_ldc2 hE tw_cl_X5_71 dX5_isOffset_3 ?_
  refine cf_X5_67 hE rfl dX5_isOffset_6 (c_X5_within (by omega)) rfl rfl ?_
  refine V_zreturn hR dX5_isOffset_9 (by omega) ?_
  exact ⟨by omega, rfl⟩
set_option maxRecDepth 100000 in
set_option maxHeartbeats 4000000 in
theorem c_X5_isPoint {K : Ctx} {σ : Sto} {s l : Int} (hI : IM σ) (hs : InI s ∧ InI l) : CtI K mX5_isPoint 1 [.ref (kA K 19), .int (i32 s), .int (i32 l)] σ (fun r σ' => r = (if 0 ≤ s ∧ s < σ 110 0 ∧ 0 ≤ l ∧ l < σ 111 0 then 1 else 0) ∧ σ' = σ) := by
  obtain ⟨hS, hW, hB, hRe, hLo, hHi, hO, hPu, hHe, hAt⟩ := hI
  refine CtZ_of (L := [some (.ref (kA K 19)), some (.int (i32 s)), some (.int (i32 l))]) (by decide) rfl rfl rfl ?_
  intro E hE hR
  refine V_iload_n hE dX5_isPoint_0 rfl ?_
  refine V_i2l hE dX5_isPoint_1 (by omega) ?_
  refine V_lconst0 hE dX5_isPoint_2 ?_
  refine V_aload_n hE dX5_isPoint_3 rfl ?_
  refine gf_X5_61 hE rfl dX5_isPoint_4 ?_
  refine V_iconst hE dX5_isPoint_7 ?_
  refine V_isub hE dX5_isPoint_8 ?_
  refine V_i2l hE dX5_isPoint_9 (by omega) ?_
  refine cf_X5_67 hE rfl dX5_isPoint_10 (c_X5_within (by omega)) rfl rfl ?_
  refine V_if_eq hE 36 dX5_isPoint_13 (by decide) (by omega) (fun h13 => ?_) (fun h13 => ?_)
  · refine V_iconst hE dX5_isPoint_36 ?_
    refine V_zreturn hR dX5_isPoint_37 (by omega) ?_
    exact ⟨by omega, rfl⟩
  · refine V_iload_n hE dX5_isPoint_16 rfl ?_
    refine V_i2l hE dX5_isPoint_17 (by omega) ?_
    refine V_lconst0 hE dX5_isPoint_18 ?_
    refine V_aload_n hE dX5_isPoint_19 rfl ?_
    refine gf_X5_64 hE rfl dX5_isPoint_20 ?_
    refine V_iconst hE dX5_isPoint_23 ?_
    refine V_isub hE dX5_isPoint_24 ?_
    refine V_i2l hE dX5_isPoint_25 (by omega) ?_
    refine cf_X5_67 hE rfl dX5_isPoint_26 (c_X5_within (by omega)) rfl rfl ?_
    refine V_if_eq hE 36 dX5_isPoint_29 (by decide) (by omega) (fun h29 => ?_) (fun h29 => ?_)
    · refine V_iconst hE dX5_isPoint_36 ?_
      refine V_zreturn hR dX5_isPoint_37 (by omega) ?_
      exact ⟨by omega, rfl⟩
    · refine V_iconst hE dX5_isPoint_32 ?_
      refine V_goto hE 37 dX5_isPoint_33 (by decide) ?_
      refine V_zreturn hR dX5_isPoint_37 (by omega) ?_
      exact ⟨by omega, rfl⟩
set_option maxRecDepth 100000 in
set_option maxHeartbeats 4000000 in
theorem c_X5_isView {K : Ctx} {σ : Sto} {v : Int} (hv : InI v) : CtI K mX5_isView 0 [.int (i32 v)] σ (fun r σ' => r = (if v = 0 ∨ v = 1 then 1 else 0) ∧ σ' = σ) := by
  refine CtZ_of (L := [some (.int (i32 v))]) (by decide) rfl rfl rfl ?_
  intro E hE hR
  refine V_iload_n hE dX5_isView_0 rfl ?_
  refine V_if_eq hE 9 dX5_isView_1 (by decide) (by omega) (fun h1 => ?_) (fun h1 => ?_)
  · refine V_iconst hE dX5_isView_9 ?_
    refine V_goto hE 14 dX5_isView_10 (by decide) ?_
    refine V_zreturn hR dX5_isView_14 (by omega) ?_
    exact ⟨by omega, rfl⟩
  · refine V_iload_n hE dX5_isView_4 rfl ?_
    refine V_iconst hE dX5_isView_5 ?_
    refine V_icmp_ne hE 13 dX5_isView_6 (by decide) (by omega) (fun h6 => ?_) (fun h6 => ?_)
    · refine V_iconst hE dX5_isView_13 ?_
      refine V_zreturn hR dX5_isView_14 (by omega) ?_
      exact ⟨by omega, rfl⟩
    · refine V_iconst hE dX5_isView_9 ?_
      refine V_goto hE 14 dX5_isView_10 (by decide) ?_
      refine V_zreturn hR dX5_isView_14 (by omega) ?_
      exact ⟨by omega, rfl⟩
set_option maxRecDepth 100000 in
set_option maxHeartbeats 4000000 in
theorem c_X5_isWhich {K : Ctx} {σ : Sto} {v : Int} (hv : InI v) : CtI K mX5_isWhich 0 [.int (i32 v)] σ (fun r σ' => r = (if v = 0 ∨ v = 1 then 1 else 0) ∧ σ' = σ) := by
  refine CtZ_of (L := [some (.int (i32 v))]) (by decide) rfl rfl rfl ?_
  intro E hE hR
  refine V_iload_n hE dX5_isWhich_0 rfl ?_
  refine V_if_eq hE 9 dX5_isWhich_1 (by decide) (by omega) (fun h1 => ?_) (fun h1 => ?_)
  · refine V_iconst hE dX5_isWhich_9 ?_
    refine V_goto hE 14 dX5_isWhich_10 (by decide) ?_
    refine V_zreturn hR dX5_isWhich_14 (by omega) ?_
    exact ⟨by omega, rfl⟩
  · refine V_iload_n hE dX5_isWhich_4 rfl ?_
    refine V_iconst hE dX5_isWhich_5 ?_
    refine V_icmp_ne hE 13 dX5_isWhich_6 (by decide) (by omega) (fun h6 => ?_) (fun h6 => ?_)
    · refine V_iconst hE dX5_isWhich_13 ?_
      refine V_zreturn hR dX5_isWhich_14 (by omega) ?_
      exact ⟨by omega, rfl⟩
    · refine V_iconst hE dX5_isWhich_9 ?_
      refine V_goto hE 14 dX5_isWhich_10 (by decide) ?_
      refine V_zreturn hR dX5_isWhich_14 (by omega) ?_
      exact ⟨by omega, rfl⟩
set_option maxRecDepth 100000 in
set_option maxHeartbeats 4000000 in
theorem c_X5_isBreadth {K : Ctx} {σ : Sto} {v : Int} (hv : InI v) : CtI K mX5_isBreadth 1 [.int (i32 v)] σ (fun r σ' => r = (if 1 ≤ v ∧ v ≤ 999 then 1 else 0) ∧ σ' = σ) := by
  refine CtZ_of (L := [some (.int (i32 v))]) (by decide) rfl rfl rfl ?_
  intro E hE hR
  refine V_iload_n hE dX5_isBreadth_0 rfl ?_
  refine V_i2l hE dX5_isBreadth_1 (by omega) ?_
  refine V_lconst1 hE dX5_isBreadth_2 ?_
  refine V_ldc2 hE tw_cl_X5_71 dX5_isBreadth_3 ?_
  refine cf_X5_67 hE rfl dX5_isBreadth_6 (c_X5_within (by omega)) rfl rfl ?_
  refine V_zreturn hR dX5_isBreadth_9 (by omega) ?_
  exact ⟨by omega, rfl⟩
set_option maxRecDepth 100000 in
set_option maxHeartbeats 4000000 in
theorem c_X5_linesOf {K : Ctx} {σ : Sto} {v : Int} (hv : InI v) : CtI K mX5_linesOf 0 [.ref (kA K 19), .int (i32 v)] σ (fun r σ' => r = (if v = 0 then σ 111 0 else σ 110 0) ∧ σ' = σ) := by
  refine CtI_of (L := [some (.ref (kA K 19)), some (.int (i32 v))]) (by decide) rfl rfl rfl ?_
  intro E hE hR
  refine V_iload_n hE dX5_linesOf_0 rfl ?_
  refine V_if_ne hE 11 dX5_linesOf_1 (by decide) (by omega) (fun h1 => ?_) (fun h1 => ?_)
  · refine V_aload_n hE dX5_linesOf_11 rfl ?_
    refine gf_X5_61 hE rfl dX5_linesOf_12 ?_
    refine V_ireturn hR dX5_linesOf_15 ?_
    exact ⟨by omega, rfl⟩
  · refine V_aload_n hE dX5_linesOf_4 rfl ?_
    refine gf_X5_64 hE rfl dX5_linesOf_5 ?_
    refine V_goto hE 15 dX5_linesOf_8 (by decide) ?_
    refine V_ireturn hR dX5_linesOf_15 ?_
    exact ⟨by omega, rfl⟩
set_option maxRecDepth 100000 in
set_option maxHeartbeats 4000000 in
theorem c_X5_isLine {K : Ctx} {σ : Sto} {v k : Int} (hI : IM σ) (hv : InI v ∧ InI k) : CtI K mX5_isLine 1 [.ref (kA K 19), .int (i32 v), .int (i32 k)] σ (fun r σ' => r = (if 0 ≤ k ∧ k < (if v = 0 then σ 111 0 else σ 110 0) then 1 else 0) ∧ σ' = σ) := by
  obtain ⟨hS, hW, hB, hRe, hLo, hHi, hO, hPu, hHe, hAt⟩ := hI
  refine CtZ_of (L := [some (.ref (kA K 19)), some (.int (i32 v)), some (.int (i32 k))]) (by decide) rfl rfl rfl ?_
  intro E hE hR
  refine V_iload_n hE dX5_isLine_0 rfl ?_
  refine V_i2l hE dX5_isLine_1 (by omega) ?_
  refine V_lconst0 hE dX5_isLine_2 ?_
  refine V_aload_n hE dX5_isLine_3 rfl ?_
  refine V_iload_n hE dX5_isLine_4 rfl ?_
  refine cf_X5_93 hE rfl dX5_isLine_5 (c_X5_linesOf hv.1) rfl rfl ?_
  refine V_iconst hE dX5_isLine_8 ?_
  refine V_isub hE dX5_isLine_9 ?_
  refine V_i2l hE dX5_isLine_10 (by omega) ?_
  refine cf_X5_67 hE rfl dX5_isLine_11 (c_X5_within (by omega)) rfl rfl ?_
  refine V_zreturn hR dX5_isLine_14 (by omega) ?_
  exact ⟨by omega, rfl⟩
set_option maxRecDepth 100000 in
set_option maxHeartbeats 4000000 in
theorem c_X5_bendAt {K : Ctx} {σ : Sto} {i : Int} (hi : 1 ≤ i ∧ i ≤ 7) : CtI K mX5_bendAt 0 [.ref (kA K 19), .int (i32 i)] σ (fun r σ' => r = bd (σ 24) i ∧ σ' = σ) := by
  refine CtI_of (L := [some (.ref (kA K 19)), some (.int (i32 i))]) (by decide) rfl rfl rfl ?_
  intro E hE hR
  refine V_aload_n hE dX5_bendAt_0 rfl ?_
  refine gf_X5_36 hE rfl dX5_bendAt_1 ?_
  refine V_iload_n hE dX5_bendAt_4 rfl ?_
  refine V_iconst hE dX5_bendAt_5 ?_
  refine V_isub hE dX5_bendAt_6 ?_
  refine V_iaload hE dX5_bendAt_7 rfl (by omega) ?_
  refine V_aload_n hE dX5_bendAt_8 rfl ?_
  refine gf_X5_36 hE rfl dX5_bendAt_9 ?_
  refine V_iload_n hE dX5_bendAt_12 rfl ?_
  refine V_iconst hE dX5_bendAt_13 ?_
  refine V_iadd hE dX5_bendAt_14 ?_
  refine V_iaload hE dX5_bendAt_15 rfl (by omega) ?_
  refine V_iadd hE dX5_bendAt_16 ?_
  refine V_iconst hE dX5_bendAt_17 ?_
  refine V_aload_n hE dX5_bendAt_18 rfl ?_
  refine gf_X5_36 hE rfl dX5_bendAt_19 ?_
  refine V_iload_n hE dX5_bendAt_22 rfl ?_
  refine V_iaload hE dX5_bendAt_23 rfl (by omega) ?_
  refine V_imul hE dX5_bendAt_24 ?_
  refine V_isub hE dX5_bendAt_25 ?_
  refine V_ireturn hR dX5_bendAt_26 ?_
  exact ⟨rfl, rfl⟩
set_option maxRecDepth 100000 in
set_option maxHeartbeats 4000000 in
theorem c_X5_jumpAt {K : Ctx} {σ : Sto} {i : Int} (hi : 1 ≤ i ∧ i ≤ 6) : CtI K mX5_jumpAt 1 [.ref (kA K 19), .int (i32 i)] σ (fun r σ' => r = jm (σ 24) i ∧ σ' = σ) := by
  refine CtI_of (L := [some (.ref (kA K 19)), some (.int (i32 i))]) (by decide) rfl rfl rfl ?_
  intro E hE hR
  refine V_aload_n hE dX5_jumpAt_0 rfl ?_
  refine V_iload_n hE dX5_jumpAt_1 rfl ?_
  refine V_iconst hE dX5_jumpAt_2 ?_
  refine V_iadd hE dX5_jumpAt_3 ?_
  refine cf_X5_100 hE rfl dX5_jumpAt_4 (c_X5_bendAt (by omega)) rfl rfl ?_
  refine V_aload_n hE dX5_jumpAt_7 rfl ?_
  refine V_iload_n hE dX5_jumpAt_8 rfl ?_
  refine cf_X5_100 hE rfl dX5_jumpAt_9 (c_X5_bendAt (by omega)) rfl rfl ?_
  refine V_isub hE dX5_jumpAt_12 ?_
  refine V_ireturn hR dX5_jumpAt_13 ?_
  exact ⟨rfl, rfl⟩
set_option maxRecDepth 100000 in
set_option maxHeartbeats 4000000 in
theorem c_X5_triple {K : Ctx} {σ : Sto} {a b c : Int} : CtI K mX5_triple 0 [.int (i32 a), .int (i32 b), .int (i32 c)] σ (fun r σ' => r = 49 * (a + 3) + 7 * (b + 3) + c + 3 ∧ σ' = σ) := by
  refine CtI_of (L := [some (.int (i32 a)), some (.int (i32 b)), some (.int (i32 c))]) (by decide) rfl rfl rfl ?_
  intro E hE hR
  refine V_bipush hE dX5_triple_0 (by decide) ?_
  refine V_iload_n hE dX5_triple_2 rfl ?_
  refine V_iconst hE dX5_triple_3 ?_
  refine V_iadd hE dX5_triple_4 ?_
  refine V_imul hE dX5_triple_5 ?_
  refine V_bipush hE dX5_triple_6 (by decide) ?_
  refine V_iload_n hE dX5_triple_8 rfl ?_
  refine V_iconst hE dX5_triple_9 ?_
  refine V_iadd hE dX5_triple_10 ?_
  refine V_imul hE dX5_triple_11 ?_
  refine V_iadd hE dX5_triple_12 ?_
  refine V_iload_n hE dX5_triple_13 rfl ?_
  refine V_iadd hE dX5_triple_14 ?_
  refine V_iconst hE dX5_triple_15 ?_
  refine V_iadd hE dX5_triple_16 ?_
  refine V_ireturn hR dX5_triple_17 ?_
  exact ⟨rfl, rfl⟩
def LaysQ (σ : Sto) (v k : Int) (σ' : Sto) : Prop := Fr [116, 23, 24] σ σ' ∧ σ' 116 0 = (if v = 0 then σ 110 0 else σ 111 0) ∧ (∀ i : Nat, (i : Int) < (if v = 0 then σ 110 0 else σ 111 0) → σ' 23 i = pt v k i ∧ σ' 24 i = σ 20 (pt v k i).toNat) ∧ Rng (σ' 24)
set_option maxRecDepth 100000 in
set_option maxHeartbeats 4000000 in
theorem lp_X5_lays_21 {K : Ctx} {E : ME} {σ : Sto} {v k : Int} (hI : IM σ) (hv : (v = 0 ∨ v = 1) ∧ 0 ≤ k ∧ k < (if v = 0 then σ 111 0 else σ 110 0)) (hE : Ok K E mX5_lays 0) (hR : RetV K E mX5_lays (fun σ' => LaysQ σ v k σ')) : ∀ (n : Nat) (i : Int) (σ1 : Sto), (if v = 0 then σ 110 0 else σ 111 0) - i < n → (0 ≤ i ∧ i ≤ (if v = 0 then σ 110 0 else σ 111 0)) → (Fr [116, 23, 24] σ σ1) → (σ1 116 0 = (if v = 0 then σ 110 0 else σ 111 0)) → (∀ j : Nat, (j : Int) < i → σ1 23 j = pt v k j ∧ σ1 24 j = σ 20 (pt v k j).toNat) → (Rng (σ1 24)) → V K E mX5_lays 21 [some (.ref (kA K 19)), some (.int (i32 v)), some (.int (i32 k)), some (.int (i32 i))] [] σ1 := by
  intro n
  induction n with
  | zero =>
    intro i σ1 hm hi hF h116 hj hr
    exfalso; omega
  | succ n ih =>
    intro i σ1 hm hi hF h116 hj hr
    obtain ⟨hS, hW, hB, hRe, hLo, hHi, hO, hPu, hHe, hAt⟩ := hI
    refine V_iload_n hE dX5_lays_21 rfl ?_
    refine V_aload_n hE dX5_lays_22 rfl ?_
    refine gf_X5_97 hE rfl dX5_lays_23 ?_
    refine V_icmp_ge hE 77 dX5_lays_26 (by decide) (by omega) (fun h26 => ?_) (fun h26 => ?_)
    · refine V_return hR dX5_lays_77 ?_
      exact ⟨hF, h116, fun j hj1 => hj j (by omega), hr⟩
    · refine V_aload_n hE dX5_lays_29 rfl ?_
      refine gf_X5_33 hE rfl dX5_lays_30 ?_
      refine V_iload_n hE dX5_lays_33 rfl ?_
      refine V_iload_n hE dX5_lays_34 rfl ?_
      refine V_if_ne hE 47 dX5_lays_35 (by decide) (by omega) (fun h35 => ?_) (fun h35 => ?_)
      · refine V_bipush hE dX5_lays_47 (by decide) ?_
        refine V_iload_n hE dX5_lays_49 rfl ?_
        refine V_imul hE dX5_lays_50 ?_
        refine V_iload_n hE dX5_lays_51 rfl ?_
        refine V_iadd hE dX5_lays_52 ?_
        refine V_iastore hE dX5_lays_53 rfl (by omega) ?_
        refine V_aload_n hE dX5_lays_54 rfl ?_
        refine gf_X5_36 hE rfl dX5_lays_55 ?_
        refine V_iload_n hE dX5_lays_58 rfl ?_
        refine V_aload_n hE dX5_lays_59 rfl ?_
        refine gf_X5_22 hE rfl dX5_lays_60 ?_
        refine V_aload_n hE dX5_lays_63 rfl ?_
        refine gf_X5_33 hE rfl dX5_lays_64 ?_
        refine V_iload_n hE dX5_lays_67 rfl ?_
        refine V_iaload hE dX5_lays_68 rfl (by omega) ?_
        rw [up_self]
        refine V_iaload hE dX5_lays_69 rfl (by omega) ?_
        rw [up_ne _ _ _ (by decide : 20 ≠ 23)]
        refine V_iastore hE dX5_lays_70 rfl (by omega) ?_
        refine V_iinc hE dX5_lays_71 rfl rfl ?_
        refine V_goto hE 21 dX5_lays_74 (by decide) ?_
        refine ih _ _ (by omega) (by omega) (Fr_up (Fr_up hF (by decide)) (by decide)) ?_ ?_ ?_
        · simp only [up]; simpa using h116
        · intro j hj1
          have e20 : σ1 20 = σ 20 := hF 20 (by decide)
          by_cases e : j = i.toNat
          · subst e
            have e2 : ((i.toNat : Nat) : Int) = i := by omega
            simp [up, pt, h35, e2, e20]
          · have h9 := hj j (by omega)
            simp [up, e]
            exact h9
        · refine Rng_up ?_ ?_
          · rw [up_ne _ _ _ (by decide : 24 ≠ 23)]; exact hr
          · rw [hF 20 (by decide)]; exact hO _
      · refine V_bipush hE dX5_lays_38 (by decide) ?_
        refine V_iload_n hE dX5_lays_40 rfl ?_
        refine V_imul hE dX5_lays_41 ?_
        refine V_iload_n hE dX5_lays_42 rfl ?_
        refine V_iadd hE dX5_lays_43 ?_
        refine V_goto hE 53 dX5_lays_44 (by decide) ?_
        refine V_iastore hE dX5_lays_53 rfl (by omega) ?_
        refine V_aload_n hE dX5_lays_54 rfl ?_
        refine gf_X5_36 hE rfl dX5_lays_55 ?_
        refine V_iload_n hE dX5_lays_58 rfl ?_
        refine V_aload_n hE dX5_lays_59 rfl ?_
        refine gf_X5_22 hE rfl dX5_lays_60 ?_
        refine V_aload_n hE dX5_lays_63 rfl ?_
        refine gf_X5_33 hE rfl dX5_lays_64 ?_
        refine V_iload_n hE dX5_lays_67 rfl ?_
        refine V_iaload hE dX5_lays_68 rfl (by omega) ?_
        rw [up_self]
        refine V_iaload hE dX5_lays_69 rfl (by omega) ?_
        rw [up_ne _ _ _ (by decide : 20 ≠ 23)]
        refine V_iastore hE dX5_lays_70 rfl (by omega) ?_
        refine V_iinc hE dX5_lays_71 rfl rfl ?_
        refine V_goto hE 21 dX5_lays_74 (by decide) ?_
        refine ih _ _ (by omega) (by omega) (Fr_up (Fr_up hF (by decide)) (by decide)) ?_ ?_ ?_
        · simp only [up]; simpa using h116
        · intro j hj1
          have e20 : σ1 20 = σ 20 := hF 20 (by decide)
          by_cases e : j = i.toNat
          · subst e
            have e2 : ((i.toNat : Nat) : Int) = i := by omega
            simp [up, pt, h35, e2, e20]
          · have h9 := hj j (by omega)
            simp [up, e]
            exact h9
        · refine Rng_up ?_ ?_
          · rw [up_ne _ _ _ (by decide : 24 ≠ 23)]; exact hr
          · rw [hF 20 (by decide)]; exact hO _
set_option maxRecDepth 100000 in
set_option maxHeartbeats 4000000 in
theorem c_X5_lays {K : Ctx} {σ : Sto} {v k : Int} (hI : IM σ) (hv : (v = 0 ∨ v = 1) ∧ 0 ≤ k ∧ k < (if v = 0 then σ 111 0 else σ 110 0)) : CtV K mX5_lays 0 [.ref (kA K 19), .int (i32 v), .int (i32 k)] σ (fun σ' => LaysQ σ v k σ') := by
  refine CtV_of (L := [some (.ref (kA K 19)), some (.int (i32 v)), some (.int (i32 k)), none]) (by decide) rfl rfl rfl ?_
  intro E hE hR
  refine V_aload_n hE dX5_lays_0 rfl ?_
  refine V_iload_n hE dX5_lays_1 rfl ?_
  refine V_if_ne hE 12 dX5_lays_2 (by decide) (by omega) (fun h2 => ?_) (fun h2 => ?_)
  · refine V_aload_n hE dX5_lays_12 rfl ?_
    refine gf_X5_64 hE rfl dX5_lays_13 ?_
    refine pf_X5_97 hE rfl dX5_lays_16 ?_
    refine V_iconst hE dX5_lays_19 ?_
    refine V_istore_n hE dX5_lays_20 rfl ?_
    refine lp_X5_lays_21 hI hv hE hR 100 0 _ (by have := hI.1; have := hI.2.1; omega) (by have := hI.1; have := hI.2.1; omega) (Fr_up Fr_rf (by decide)) ?_ (fun j hj => by omega) ?_
    · simp [up, h2]
    · rw [up_ne _ _ _ (by decide : 24 ≠ 116)]; exact hI.2.2.2.2.2.2.2.2.2
  · refine V_aload_n hE dX5_lays_5 rfl ?_
    refine gf_X5_61 hE rfl dX5_lays_6 ?_
    refine V_goto hE 16 dX5_lays_9 (by decide) ?_
    refine pf_X5_97 hE rfl dX5_lays_16 ?_
    refine V_iconst hE dX5_lays_19 ?_
    refine V_istore_n hE dX5_lays_20 rfl ?_
    refine lp_X5_lays_21 hI hv hE hR 100 0 _ (by have := hI.1; have := hI.2.1; omega) (by have := hI.1; have := hI.2.1; omega) (Fr_up Fr_rf (by decide)) ?_ (fun j hj => by omega) ?_
    · simp [up, h2]
    · rw [up_ne _ _ _ (by decide : 24 ≠ 116)]; exact hI.2.2.2.2.2.2.2.2.2
end
section
/-! what both sides answer, in one set of words -/
def lnf (o : Nat → Int) (v k : Int) : Nat → Int := fun i => o (pt v k i).toNat
def scM : List Nat := [116, 117, 118, 119, 23, 24, 25, 26, 27, 28, 29, 30, 31]
def SmM (σ σ' : Sto) : Prop := Fr scM σ σ' ∧ Rng (σ' 24)
theorem SmM_rf {σ : Sto} (h : Rng (σ 24)) : SmM σ σ := ⟨Fr_rf, h⟩
theorem SmM_tr {σ σ1 σ2 : Sto} (h : SmM σ σ1) (h2 : SmM σ1 σ2) : SmM σ σ2 := ⟨Fr_tr h.1 h2.1 (fun _ q => q), h2.2⟩
theorem IM_at {σ : Sto} (h : IM σ) : Rng (σ 24) := h.2.2.2.2.2.2.2.2.2
theorem IM_sm {σ σ' : Sto} (h : IM σ) (h2 : SmM σ σ') : IM σ' := by
  obtain ⟨hS, hW, hB, hRe, hLo, hHi, hO, hPu, hHe, hAt⟩ := h
  have e := h2.1
  unfold IM
  rw [e 110 (by decide), e 111 (by decide), e 112 (by decide), e 113 (by decide), e 114 (by decide), e 115 (by decide), e 20 (by decide), e 21 (by decide), e 22 (by decide)]
  exact ⟨hS, hW, hB, hRe, hLo, hHi, hO, hPu, hHe, h2.2⟩
theorem lnf_rng {o : Nat → Int} (h : Rng o) (v k : Int) : Rng (lnf o v k) := fun i => h _
def rc (f : Nat → Int) (b : Int) : Nat → Int
  | 0 => 0
  | m + 1 => rc f b m + (if b < ((jm f (m + 1)).natAbs : Nat) then 1 else 0)
theorem rc_step (f : Nat → Int) (b : Int) {i : Int} (h : 1 ≤ i) : rc f b (i + 1 - 1).toNat = rc f b (i - 1).toNat + (if b < ((jm f i).natAbs : Nat) then 1 else 0) := by
  rw [show (i + 1 - 1).toNat = (i - 1).toNat + 1 by omega, rc, show (((i - 1).toNat : Nat) : Int) + 1 = i by omega]
theorem rc_rng (f : Nat → Int) (b : Int) (m : Nat) : 0 ≤ rc f b m ∧ rc f b m ≤ m := by
  induction m with
  | zero => simp [rc]
  | succ m ih => rw [rc]; split <;> omega
theorem rc_congr {f g : Nat → Int} {n : Int} (b : Int) (h : ∀ i : Nat, (i : Int) < n → f i = g i) (m : Nat) (hm : (m : Int) ≤ n - 3) : rc f b m = rc g b m := by
  induction m with
  | zero => rfl
  | succ m ih => rw [rc, rc, ih (by omega), jm_congr h (by omega)]
def itL {A : Type} (step : Int → Int → A → A) (v : Int) : Nat → A → A
  | 0, a => a
  | k + 1, a => step v k (itL step v k a)
theorem itL_step {A : Type} (step : Int → Int → A → A) (v : Int) (a : A) {k : Int} (h : 0 ≤ k) : itL step v (k + 1).toNat a = step v k (itL step v k.toNat a) := by
  rw [show (k + 1).toNat = k.toNat + 1 by omega, itL, show ((k.toNat : Nat) : Int) = k by omega]
def barS (S W v k i last : Int) : Int := if ¬(v = 0 ∨ v = 1) then -2 else if ¬(0 ≤ k ∧ k < (if v = 0 then W else S)) then -1 else if 1 ≤ i ∧ i ≤ (if v = 0 then S else W) - last then 0 else -2
def bendS (o : Nat → Int) (S W v k i : Int) : Int := if barS S W v k i 2 < 0 then barS S W v k i 2 else bd (lnf o v k) i
def jumpS (o : Nat → Int) (S W v k i : Int) : Int := if barS S W v k i 3 < 0 then barS S W v k i 3 else jm (lnf o v k) i
def refS (S W v k : Int) : Int := if ¬(v = 0 ∨ v = 1) then -2 else if ¬(0 ≤ k ∧ k < (if v = 0 then W else S)) then -1 else 0
def roughS (o : Nat → Int) (S W b v k : Int) : Int := if refS S W v k < 0 then refS S W v k else rc (lnf o v k) b ((if v = 0 then S else W) - 3).toNat
def mrStep (o : Nat → Int) (S W b v k acc : Int) : Int := acc + (if 0 < rc (lnf o v k) b ((if v = 0 then S else W) - 3).toNat then 1 else 0)
def mrS (o : Nat → Int) (S W b : Int) : Int := itL (mrStep o S W b) 1 S.toNat (itL (mrStep o S W b) 0 W.toNat 0)
theorem mr_rng (o : Nat → Int) (S W b v a : Int) (k : Nat) : a ≤ itL (mrStep o S W b) v k a ∧ itL (mrStep o S W b) v k a ≤ a + k := by
  induction k with
  | zero => simp [itL]
  | succ k ih => rw [itL, mrStep]; split <;> omega
/-- how many of the first n places satisfy p -/
def cnt (p : Nat → Bool) : Nat → Int
  | 0 => 0
  | n + 1 => cnt p n + (if p n then 1 else 0)
theorem cnt_step (p : Nat → Bool) {i : Int} (h : 0 ≤ i) : cnt p (i + 1).toNat = cnt p i.toNat + (if p i.toNat then 1 else 0) := by
  rw [show (i + 1).toNat = i.toNat + 1 by omega, cnt]
theorem cnt_rng (p : Nat → Bool) (n : Nat) : 0 ≤ cnt p n ∧ cnt p n ≤ n := by
  induction n with
  | zero => simp [cnt]
  | succ n ih => rw [cnt]; split <;> omega
def fsum (f : Nat → Int) : Nat → Int
  | 0 => 0
  | n + 1 => fsum f n + f n
theorem fsum_step (f : Nat → Int) {i : Int} (h : 0 ≤ i) : fsum f (i + 1).toNat = fsum f i.toNat + f i.toNat := by
  rw [show (i + 1).toNat = i.toNat + 1 by omega, fsum]
def heldS (h : Nat → Int) : Int := cnt (fun i => decide (h i ≠ 0)) 63
def backS (o p : Nat → Int) : Int := cnt (fun i => decide (o i ≠ p i)) 63
def farS (o p : Nat → Int) : Int := fsum (fun i => (((o i - p i).natAbs : Nat) : Int)) 63
def lay0 (n : Nat) (f g : Nat → Int) : Nat → Int := fun i => if i < n then g i else f i
def manyS (o p h : Nat → Int) (S W b what : Int) : Int := if what = 0 then S else if what = 1 then W else if what = 2 then heldS h else if what = 3 then mrS o S W b else if what = 4 then farS o p else -2
end
section
theorem LaysQ_sm {σ σ' : Sto} {v k : Int} (h : LaysQ σ v k σ') : SmM σ σ' := ⟨Fr_sub h.1 (by decide), h.2.2.2⟩
theorem LaysQ_ln {σ σ' : Sto} {v k : Int} (h : LaysQ σ v k σ') : ∀ i : Nat, (i : Int) < (if v = 0 then σ 110 0 else σ 111 0) → σ' 24 i = lnf (σ 20) v k i := fun i hi => (h.2.2.1 i hi).2
set_option maxRecDepth 100000 in
set_option maxHeartbeats 4000000 in
theorem c_X5_barred {K : Ctx} {σ : Sto} {v k i t : Int} (hI : IM σ) (hv : InI v ∧ InI k ∧ InI i ∧ 2 ≤ t ∧ t ≤ 3) : CtI K mX5_barred 2 [.ref (kA K 19), .int (i32 v), .int (i32 k), .int (i32 i), .int (i32 t)] σ (fun r σ' => r = barS (σ 110 0) (σ 111 0) v k i t ∧ SmM σ σ' ∧ (r = 0 → LaysQ σ v k σ')) := by
  obtain ⟨hS, hW, hB, hRe, hLo, hHi, hO, hPu, hHe, hAt⟩ := id hI
  refine CtI_of (L := [some (.ref (kA K 19)), some (.int (i32 v)), some (.int (i32 k)), some (.int (i32 i)), some (.int (i32 t))]) (by decide) rfl rfl rfl ?_
  intro E hE hR
  refine V_iload_n hE dX5_barred_0 rfl ?_
  refine cf_X5_103 hE rfl dX5_barred_1 (c_X5_isView (by omega)) rfl rfl ?_
  refine V_if_ne hE 10 dX5_barred_4 (by decide) (by omega) (fun h4 => ?_) (fun h4 => ?_)
  · refine V_aload_n hE dX5_barred_10 rfl ?_
    refine V_iload_n hE dX5_barred_11 rfl ?_
    refine V_iload_n hE dX5_barred_12 rfl ?_
    refine cf_X5_106 hE rfl dX5_barred_13 (c_X5_isLine hI (by omega)) rfl rfl ?_
    refine V_if_ne hE 21 dX5_barred_16 (by decide) (by omega) (fun h16 => ?_) (fun h16 => ?_)
    · refine V_aload_n hE dX5_barred_21 rfl ?_
      refine V_iload_n hE dX5_barred_22 rfl ?_
      refine V_iload_n hE dX5_barred_23 rfl ?_
      refine cl_X5_109 hE rfl dX5_barred_24 (c_X5_lays hI (by omega)) rfl rfl ?_
      rintro σ1 hq
      have e116 := hq.2.1
      refine V_iload_n hE dX5_barred_27 rfl ?_
      refine V_i2l hE dX5_barred_28 (by omega) ?_
      refine V_lconst1 hE dX5_barred_29 ?_
      refine V_aload_n hE dX5_barred_30 rfl ?_
      refine gf_X5_97 hE rfl dX5_barred_31 ?_
      refine V_iload hE dX5_barred_34 rfl ?_
      refine V_isub hE dX5_barred_36 ?_
      refine V_i2l hE dX5_barred_37 (by omega) ?_
      refine cf_X5_67 hE rfl dX5_barred_38 (c_X5_within (by omega)) rfl rfl ?_
      refine V_if_eq hE 48 dX5_barred_41 (by decide) (by omega) (fun h41 => ?_) (fun h41 => ?_)
      · refine V_bipush hE dX5_barred_48 (by decide) ?_
        refine V_ireturn hR dX5_barred_50 ?_
        exact ⟨by unfold barS; omega, LaysQ_sm hq, fun _ => hq⟩
      · refine V_iconst hE dX5_barred_44 ?_
        refine V_goto hE 50 dX5_barred_45 (by decide) ?_
        refine V_ireturn hR dX5_barred_50 ?_
        exact ⟨by unfold barS; omega, LaysQ_sm hq, fun _ => hq⟩
    · refine V_iconst hE dX5_barred_19 ?_
      refine V_ireturn hR dX5_barred_20 ?_
      exact ⟨by unfold barS; omega, SmM_rf hAt, fun h => by omega⟩
  · refine V_bipush hE dX5_barred_7 (by decide) ?_
    refine V_ireturn hR dX5_barred_9 ?_
    exact ⟨by unfold barS; omega, SmM_rf hAt, fun h => by omega⟩
set_option maxRecDepth 100000 in
set_option maxHeartbeats 4000000 in
theorem c_X5_bend {K : Ctx} {σ : Sto} {v k i : Int} (hI : IM σ) (hv : InI v ∧ InI k ∧ InI i) : CtI K mX5_bend 3 [.ref (kA K 19), .int (i32 v), .int (i32 k), .int (i32 i)] σ (fun r σ' => r = bendS (σ 20) (σ 110 0) (σ 111 0) v k i ∧ SmM σ σ') := by
  obtain ⟨hS, hW, hB, hRe, hLo, hHi, hO, hPu, hHe, hAt⟩ := id hI
  refine CtI_of (L := [some (.ref (kA K 19)), some (.int (i32 v)), some (.int (i32 k)), some (.int (i32 i)), none]) (by decide) rfl rfl rfl ?_
  intro E hE hR
  refine V_aload_n hE dX5_bend_0 rfl ?_
  refine V_iload_n hE dX5_bend_1 rfl ?_
  refine V_iload_n hE dX5_bend_2 rfl ?_
  refine V_iload_n hE dX5_bend_3 rfl ?_
  refine V_iconst hE dX5_bend_4 ?_
  refine cl_X5_113 hE rfl dX5_bend_5 (c_X5_barred hI (by omega)) rfl rfl ?_
  rintro r σ1 ⟨hr, hs, hq⟩
  have hb : r = -2 ∨ r = -1 ∨ (r = 0 ∧ 1 ≤ i ∧ i ≤ (if v = 0 then σ 110 0 else σ 111 0) - 2) := by unfold barS at hr; omega
  refine V_istore hE dX5_bend_8 rfl ?_
  refine V_iload hE dX5_bend_10 rfl ?_
  refine V_if_ge hE 20 dX5_bend_12 (by decide) (by omega) (fun h12 => ?_) (fun h12 => ?_)
  · refine V_aload_n hE dX5_bend_20 rfl ?_
    refine V_iload_n hE dX5_bend_21 rfl ?_
    refine cf_X5_100 hE rfl dX5_bend_22 (c_X5_bendAt (by omega)) rfl rfl ?_
    have e : bd (σ1 24) i = bd (lnf (σ 20) v k) i := bd_congr (LaysQ_ln (hq (by omega))) (by omega)
    refine V_ireturn hR dX5_bend_25 ?_
    exact ⟨by unfold bendS; rw [← hr]; first | rw [if_pos (by omega)] | (rw [if_neg (by omega)]; exact e), hs⟩
  · refine V_iload hE dX5_bend_15 rfl ?_
    refine V_goto hE 25 dX5_bend_17 (by decide) ?_
    refine V_ireturn hR dX5_bend_25 ?_
    exact ⟨by unfold bendS; rw [← hr]; first | rw [if_pos (by omega)] | (rw [if_neg (by omega)]; exact e), hs⟩
set_option maxRecDepth 100000 in
set_option maxHeartbeats 4000000 in
theorem c_X5_jump {K : Ctx} {σ : Sto} {v k i : Int} (hI : IM σ) (hv : InI v ∧ InI k ∧ InI i) : CtI K mX5_jump 3 [.ref (kA K 19), .int (i32 v), .int (i32 k), .int (i32 i)] σ (fun r σ' => r = jumpS (σ 20) (σ 110 0) (σ 111 0) v k i ∧ SmM σ σ') := by
  obtain ⟨hS, hW, hB, hRe, hLo, hHi, hO, hPu, hHe, hAt⟩ := id hI
  refine CtI_of (L := [some (.ref (kA K 19)), some (.int (i32 v)), some (.int (i32 k)), some (.int (i32 i)), none]) (by decide) rfl rfl rfl ?_
  intro E hE hR
  refine V_aload_n hE dX5_jump_0 rfl ?_
  refine V_iload_n hE dX5_jump_1 rfl ?_
  refine V_iload_n hE dX5_jump_2 rfl ?_
  refine V_iload_n hE dX5_jump_3 rfl ?_
  refine V_iconst hE dX5_jump_4 ?_
  refine cl_X5_113 hE rfl dX5_jump_5 (c_X5_barred hI (by omega)) rfl rfl ?_
  rintro r σ1 ⟨hr, hs, hq⟩
  have hb : r = -2 ∨ r = -1 ∨ (r = 0 ∧ 1 ≤ i ∧ i ≤ (if v = 0 then σ 110 0 else σ 111 0) - 3) := by unfold barS at hr; omega
  refine V_istore hE dX5_jump_8 rfl ?_
  refine V_iload hE dX5_jump_10 rfl ?_
  refine V_if_ge hE 20 dX5_jump_12 (by decide) (by omega) (fun h12 => ?_) (fun h12 => ?_)
  · refine V_aload_n hE dX5_jump_20 rfl ?_
    refine V_iload_n hE dX5_jump_21 rfl ?_
    refine cf_X5_117 hE rfl dX5_jump_22 (c_X5_jumpAt (by omega)) rfl rfl ?_
    have e : jm (σ1 24) i = jm (lnf (σ 20) v k) i := jm_congr (LaysQ_ln (hq (by omega))) (by omega)
    refine V_ireturn hR dX5_jump_25 ?_
    exact ⟨by unfold jumpS; rw [← hr]; first | rw [if_pos (by omega)] | (rw [if_neg (by omega)]; exact e), hs⟩
  · refine V_iload hE dX5_jump_15 rfl ?_
    refine V_goto hE 25 dX5_jump_17 (by decide) ?_
    refine V_ireturn hR dX5_jump_25 ?_
    exact ⟨by unfold jumpS; rw [← hr]; first | rw [if_pos (by omega)] | (rw [if_neg (by omega)]; exact e), hs⟩
set_option maxRecDepth 100000 in
set_option maxHeartbeats 4000000 in
theorem lp_X5_roughNow_4 {K : Ctx} {E : ME} {σ : Sto} (hI : IM σ) (hp : 4 ≤ σ 116 0 ∧ σ 116 0 ≤ 9) (hE : Ok K E mX5_roughNow 2) (hR : RetI K E mX5_roughNow (fun r σ' => r = rc (σ 24) (σ 112 0) (σ 116 0 - 3).toNat ∧ σ' = σ)) : ∀ (n : Nat) (i : Int) (a : Int), σ 116 0 - i < n → (1 ≤ i ∧ i ≤ σ 116 0 - 2) → (a = rc (σ 24) (σ 112 0) (i - 1).toNat) → V K E mX5_roughNow 4 [some (.ref (kA K 19)), some (.int (i32 a)), some (.int (i32 i))] [] σ := by
  intro n
  induction n with
  | zero =>
    intro i a hm hi ha
    exfalso; omega
  | succ n ih =>
    intro i a hm hi ha
    obtain ⟨hS, hW, hB, hRe, hLo, hHi, hO, hPu, hHe, hAt⟩ := id hI
    have hj := jm_rng hAt i
    refine V_iload_n hE dX5_roughNow_4 rfl ?_
    refine V_aload_n hE dX5_roughNow_5 rfl ?_
    refine gf_X5_97 hE rfl dX5_roughNow_6 ?_
    refine V_iconst hE dX5_roughNow_9 ?_
    refine V_isub hE dX5_roughNow_10 ?_
    refine V_icmp_ge hE 43 dX5_roughNow_11 (by decide) (by omega) (fun h11 => ?_) (fun h11 => ?_)
    · refine V_iload_n hE dX5_roughNow_43 rfl ?_
      refine V_ireturn hR dX5_roughNow_44 ?_
      exact ⟨by rw [ha, show i = σ 116 0 - 2 by omega, show (σ 116 0 - 2 - 1) = σ 116 0 - 3 by omega], rfl⟩
    · refine V_iload_n hE dX5_roughNow_14 rfl ?_
      refine V_aload_n hE dX5_roughNow_15 rfl ?_
      refine V_iload_n hE dX5_roughNow_16 rfl ?_
      refine cf_X5_117 hE rfl dX5_roughNow_17 (c_X5_jumpAt (by omega)) rfl rfl ?_
      refine cf_X5_120 hE rfl dX5_roughNow_20 (c_X5_far (by omega)) rfl rfl ?_
      refine V_aload_n hE dX5_roughNow_23 rfl ?_
      refine gf_X5_7 hE rfl dX5_roughNow_24 ?_
      refine V_icmp_le hE 34 dX5_roughNow_27 (by decide) (by omega) (fun h27 => ?_) (fun h27 => ?_)
      · refine V_iconst hE dX5_roughNow_34 ?_
        refine V_iadd hE dX5_roughNow_35 ?_
        refine V_istore_n hE dX5_roughNow_36 rfl ?_
        refine V_iinc hE dX5_roughNow_37 rfl rfl ?_
        refine V_goto hE 4 dX5_roughNow_40 (by decide) ?_
        exact ih _ _ (by omega) (by omega) (by rw [rc_step _ _ (by omega), ← ha]; omega)
      · refine V_iconst hE dX5_roughNow_30 ?_
        refine V_goto hE 35 dX5_roughNow_31 (by decide) ?_
        refine V_iadd hE dX5_roughNow_35 ?_
        refine V_istore_n hE dX5_roughNow_36 rfl ?_
        refine V_iinc hE dX5_roughNow_37 rfl rfl ?_
        refine V_goto hE 4 dX5_roughNow_40 (by decide) ?_
        exact ih _ _ (by omega) (by omega) (by rw [rc_step _ _ (by omega), ← ha]; omega)
set_option maxRecDepth 100000 in
set_option maxHeartbeats 4000000 in
theorem c_X5_roughNow {K : Ctx} {σ : Sto} (hI : IM σ) (hp : 4 ≤ σ 116 0 ∧ σ 116 0 ≤ 9) : CtI K mX5_roughNow 2 [.ref (kA K 19)] σ (fun r σ' => r = rc (σ 24) (σ 112 0) (σ 116 0 - 3).toNat ∧ σ' = σ) := by
  refine CtI_of (L := [some (.ref (kA K 19)), none, none]) (by decide) rfl rfl rfl ?_
  intro E hE hR
  refine V_iconst hE dX5_roughNow_0 ?_
  refine V_istore_n hE dX5_roughNow_1 rfl ?_
  refine V_iconst hE dX5_roughNow_2 ?_
  refine V_istore_n hE dX5_roughNow_3 rfl ?_
  exact lp_X5_roughNow_4 hI hp hE hR 100 1 0 (by omega) (by omega) rfl
set_option maxRecDepth 100000 in
set_option maxHeartbeats 4000000 in
theorem c_X5_rough {K : Ctx} {σ : Sto} {v k : Int} (hI : IM σ) (hv : InI v ∧ InI k) : CtI K mX5_rough 3 [.ref (kA K 19), .int (i32 v), .int (i32 k)] σ (fun r σ' => r = roughS (σ 20) (σ 110 0) (σ 111 0) (σ 112 0) v k ∧ SmM σ σ') := by
  obtain ⟨hS, hW, hB, hRe, hLo, hHi, hO, hPu, hHe, hAt⟩ := id hI
  refine CtI_of (L := [some (.ref (kA K 19)), some (.int (i32 v)), some (.int (i32 k))]) (by decide) rfl rfl rfl ?_
  intro E hE hR
  refine V_iload_n hE dX5_rough_0 rfl ?_
  refine cf_X5_103 hE rfl dX5_rough_1 (c_X5_isView (by omega)) rfl rfl ?_
  refine V_if_ne hE 10 dX5_rough_4 (by decide) (by omega) (fun h4 => ?_) (fun h4 => ?_)
  · refine V_aload_n hE dX5_rough_10 rfl ?_
    refine V_iload_n hE dX5_rough_11 rfl ?_
    refine V_iload_n hE dX5_rough_12 rfl ?_
    refine cf_X5_106 hE rfl dX5_rough_13 (c_X5_isLine hI (by omega)) rfl rfl ?_
    refine V_if_ne hE 21 dX5_rough_16 (by decide) (by omega) (fun h16 => ?_) (fun h16 => ?_)
    · refine V_aload_n hE dX5_rough_21 rfl ?_
      refine V_iload_n hE dX5_rough_22 rfl ?_
      refine V_iload_n hE dX5_rough_23 rfl ?_
      refine cl_X5_109 hE rfl dX5_rough_24 (c_X5_lays hI (by omega)) rfl rfl ?_
      rintro σ1 hq
      have e116 := hq.2.1
      have hs := LaysQ_sm hq
      refine V_aload_n hE dX5_rough_27 rfl ?_
      refine cf_X5_123 hE rfl dX5_rough_28 (c_X5_roughNow (IM_sm hI hs) (by omega)) rfl rfl ?_
      refine V_ireturn hR dX5_rough_31 ?_
      refine ⟨?_, hs⟩
      unfold roughS
      rw [if_neg (by unfold refS; omega), hs.1 112 (by decide), e116]
      exact rc_congr _ (LaysQ_ln hq) _ (by omega)
    · refine V_iconst hE dX5_rough_19 ?_
      refine V_ireturn hR dX5_rough_20 ?_
      exact ⟨by unfold roughS refS; omega, SmM_rf hAt⟩
  · refine V_bipush hE dX5_rough_7 (by decide) ?_
    refine V_ireturn hR dX5_rough_9 ?_
    exact ⟨by unfold roughS refS; omega, SmM_rf hAt⟩
set_option maxRecDepth 100000 in
set_option maxHeartbeats 4000000 in
theorem lp_X5_manyRough_11 {K : Ctx} {E : ME} {σ : Sto} (hI : IM σ) {v a0 : Int} (hv : v = 0 ∨ v = 1) (ha0 : 0 ≤ a0 ∧ a0 ≤ 100) (hk : ∀ σ1 : Sto, SmM σ σ1 → V K E mX5_manyRough 47 [some (.ref (kA K 19)), some (.int (i32 (itL (mrStep (σ 20) (σ 110 0) (σ 111 0) (σ 112 0)) v (if v = 0 then σ 111 0 else σ 110 0).toNat a0))), some (.int (i32 v)), some (.int (i32 (if v = 0 then σ 111 0 else σ 110 0)))] [] σ1) (hE : Ok K E mX5_manyRough 3) : ∀ (n : Nat) (k : Int) (a : Int) (σ1 : Sto), (if v = 0 then σ 111 0 else σ 110 0) - k < n → (0 ≤ k ∧ k ≤ (if v = 0 then σ 111 0 else σ 110 0)) → (a = (itL (mrStep (σ 20) (σ 110 0) (σ 111 0) (σ 112 0)) v k.toNat a0)) → (SmM σ σ1) → V K E mX5_manyRough 11 [some (.ref (kA K 19)), some (.int (i32 a)), some (.int (i32 v)), some (.int (i32 k))] [] σ1 := by
  intro n
  induction n with
  | zero =>
    intro k a σ1 hm hk1 ha hs
    exfalso; omega
  | succ n ih =>
    intro k a σ1 hm hk1 ha hs
    obtain ⟨hS, hW, hB, hRe, hLo, hHi, hO, hPu, hHe, hAt⟩ := id hI
    have e111 := congrFun (hs.1 111 (by decide)) 0
    have e110 := congrFun (hs.1 110 (by decide)) 0
    have hmr := mr_rng (σ 20) (σ 110 0) (σ 111 0) (σ 112 0) v a0 k.toNat
    refine V_iload_n hE dX5_manyRough_11 rfl ?_
    refine V_aload_n hE dX5_manyRough_12 rfl ?_
    refine V_iload_n hE dX5_manyRough_13 rfl ?_
    refine cf_X5_93 hE rfl dX5_manyRough_14 (c_X5_linesOf (by omega)) rfl rfl ?_
    refine V_icmp_ge hE 47 dX5_manyRough_17 (by decide) (by omega) (fun h17 => ?_) (fun h17 => ?_)
    · have ek : k = (if v = 0 then σ 111 0 else σ 110 0) := by omega
      rw [ek] at ha
      rw [ha, ek]
      exact hk _ hs
    · refine V_aload_n hE dX5_manyRough_20 rfl ?_
      refine V_iload_n hE dX5_manyRough_21 rfl ?_
      refine V_iload_n hE dX5_manyRough_22 rfl ?_
      refine cl_X5_109 hE rfl dX5_manyRough_23 (c_X5_lays (IM_sm hI hs) (by omega)) rfl rfl ?_
      rintro σ2 hq
      have e116 := hq.2.1
      have hs2 := SmM_tr hs (LaysQ_sm hq)
      refine V_iload_n hE dX5_manyRough_26 rfl ?_
      refine V_aload_n hE dX5_manyRough_27 rfl ?_
      refine cf_X5_123 hE rfl dX5_manyRough_28 (c_X5_roughNow (IM_sm hI hs2) (by omega)) rfl rfl ?_
      have erc : rc (σ2 24) (σ2 112 0) (σ2 116 0 - 3).toNat = rc (lnf (σ 20) v k) (σ 112 0) ((if v = 0 then σ 110 0 else σ 111 0) - 3).toNat := by
        rw [hs2.1 112 (by decide), e116, e110, e111]
        refine rc_congr (n := if v = 0 then σ 110 0 else σ 111 0) _ (fun i hi => ?_) _ (by omega)
        have h9 := LaysQ_ln hq i (by omega)
        rw [hs.1 20 (by decide)] at h9
        exact h9
      rw [erc]
      have hrc := rc_rng (lnf (σ 20) v k) (σ 112 0) ((if v = 0 then σ 110 0 else σ 111 0) - 3).toNat
      refine V_if_le hE 38 dX5_manyRough_31 (by decide) (by omega) (fun h31 => ?_) (fun h31 => ?_)
      · refine V_iconst hE dX5_manyRough_38 ?_
        refine V_iadd hE dX5_manyRough_39 ?_
        refine V_istore_n hE dX5_manyRough_40 rfl ?_
        refine V_iinc hE dX5_manyRough_41 rfl rfl ?_
        refine V_goto hE 11 dX5_manyRough_44 (by decide) ?_
        exact ih _ _ _ (by omega) (by omega) (by rw [itL_step _ _ _ (by omega), ← ha, mrStep]; omega) hs2
      · refine V_iconst hE dX5_manyRough_34 ?_
        refine V_goto hE 39 dX5_manyRough_35 (by decide) ?_
        refine V_iadd hE dX5_manyRough_39 ?_
        refine V_istore_n hE dX5_manyRough_40 rfl ?_
        refine V_iinc hE dX5_manyRough_41 rfl rfl ?_
        refine V_goto hE 11 dX5_manyRough_44 (by decide) ?_
        exact ih _ _ _ (by omega) (by omega) (by rw [itL_step _ _ _ (by omega), ← ha, mrStep]; omega) hs2
set_option maxRecDepth 100000 in
set_option maxHeartbeats 4000000 in
theorem c_X5_manyRough {K : Ctx} {σ : Sto} (hI : IM σ) : CtI K mX5_manyRough 3 [.ref (kA K 19)] σ (fun r σ' => r = mrS (σ 20) (σ 110 0) (σ 111 0) (σ 112 0) ∧ SmM σ σ') := by
  obtain ⟨hS, hW, hB, hRe, hLo, hHi, hO, hPu, hHe, hAt⟩ := id hI
  refine CtI_of (L := [some (.ref (kA K 19)), none, none, none]) (by decide) rfl rfl rfl ?_
  intro E hE hR
  refine V_iconst hE dX5_manyRough_0 ?_
  refine V_istore_n hE dX5_manyRough_1 rfl ?_
  refine V_iconst hE dX5_manyRough_2 ?_
  refine V_istore_n hE dX5_manyRough_3 rfl ?_
  refine V_iload_n hE dX5_manyRough_4 rfl ?_
  refine V_iconst hE dX5_manyRough_5 ?_
  refine V_icmp_ge hE 53 dX5_manyRough_6 (by decide) (by omega) (fun h6 => ?_) (fun h6 => ?_)
  · exfalso; omega
  · refine V_iconst hE dX5_manyRough_9 ?_
    refine V_istore_n hE dX5_manyRough_10 rfl ?_
    have hmr := mr_rng (σ 20) (σ 110 0) (σ 111 0) (σ 112 0) 0 0 (σ 111 0).toNat
    refine lp_X5_manyRough_11 hI (v := 0) (a0 := 0) (Or.inl rfl) (by omega) ?_ hE 100 0 _ σ (by omega) (by omega) rfl (SmM_rf hAt)
    intro σ1 hs1
    refine V_iinc hE dX5_manyRough_47 rfl rfl ?_
    refine V_goto hE 4 dX5_manyRough_50 (by decide) ?_
    refine V_iload_n hE dX5_manyRough_4 rfl ?_
    refine V_iconst hE dX5_manyRough_5 ?_
    refine V_icmp_ge hE 53 dX5_manyRough_6 (by decide) (by omega) (fun h6 => ?_) (fun h6 => ?_)
    · exfalso; omega
    · refine V_iconst hE dX5_manyRough_9 ?_
      refine V_istore_n hE dX5_manyRough_10 rfl ?_
      refine lp_X5_manyRough_11 hI (v := 1) (a0 := itL (mrStep (σ 20) (σ 110 0) (σ 111 0) (σ 112 0)) 0 (σ 111 0).toNat 0) (Or.inr rfl) (by omega) ?_ hE 100 0 _ σ1 (by omega) (by omega) rfl hs1
      intro σ2 hs2
      refine V_iinc hE dX5_manyRough_47 rfl rfl ?_
      refine V_goto hE 4 dX5_manyRough_50 (by decide) ?_
      refine V_iload_n hE dX5_manyRough_4 rfl ?_
      refine V_iconst hE dX5_manyRough_5 ?_
      refine V_icmp_ge hE 53 dX5_manyRough_6 (by decide) (by omega) (fun h6 => ?_) (fun h6 => ?_)
      · refine V_iload_n hE dX5_manyRough_53 rfl ?_
        refine V_ireturn hR dX5_manyRough_54 ?_
        refine ⟨?_, hs2⟩
        rfl
      · exfalso; omega
set_option maxRecDepth 100000 in
set_option maxHeartbeats 4000000 in
theorem lp_X5_manyHeld_4 {K : Ctx} {E : ME} {σ : Sto} (hI : IM σ) (hE : Ok K E mX5_manyHeld 0) (hR : RetI K E mX5_manyHeld (fun r σ' => r = heldS (σ 22) ∧ σ' = σ)) : ∀ (n : Nat) (i : Int) (a : Int), 63 - i < n → (0 ≤ i ∧ i ≤ 63) → (a = cnt (fun i => decide (σ 22 i ≠ 0)) i.toNat) → V K E mX5_manyHeld 4 [some (.ref (kA K 19)), some (.int (i32 a)), some (.int (i32 i))] [] σ := by
  intro n
  induction n with
  | zero =>
    intro i a hm hi ha
    exfalso; omega
  | succ n ih =>
    intro i a hm hi ha
    obtain ⟨hS, hW, hB, hRe, hLo, hHi, hO, hPu, hHe, hAt⟩ := id hI
    have h9 := hHe i.toNat
    refine V_iload_n hE dX5_manyHeld_4 rfl ?_
    refine V_bipush hE dX5_manyHeld_5 (by decide) ?_
    refine V_icmp_ge hE 33 dX5_manyHeld_7 (by decide) (by omega) (fun h7 => ?_) (fun h7 => ?_)
    · refine V_iload_n hE dX5_manyHeld_33 rfl ?_
      refine V_ireturn hR dX5_manyHeld_34 ?_
      exact ⟨by rw [ha, show i = 63 by omega]; rfl, rfl⟩
    · refine V_iload_n hE dX5_manyHeld_10 rfl ?_
      refine V_aload_n hE dX5_manyHeld_11 rfl ?_
      refine gf_X5_29 hE rfl dX5_manyHeld_12 ?_
      refine V_iload_n hE dX5_manyHeld_15 rfl ?_
      refine V_baload hE dX5_manyHeld_16 rfl (by omega) ?_
      refine V_if_eq hE 24 dX5_manyHeld_17 (by decide) (by omega) (fun h17 => ?_) (fun h17 => ?_)
      · refine V_iconst hE dX5_manyHeld_24 ?_
        refine V_iadd hE dX5_manyHeld_25 ?_
        refine V_istore_n hE dX5_manyHeld_26 rfl ?_
        refine V_iinc hE dX5_manyHeld_27 rfl rfl ?_
        refine V_goto hE 4 dX5_manyHeld_30 (by decide) ?_
        exact ih _ _ (by omega) (by omega) (by rw [cnt_step _ (by omega), ← ha]; simp [h17])
      · refine V_iconst hE dX5_manyHeld_20 ?_
        refine V_goto hE 25 dX5_manyHeld_21 (by decide) ?_
        refine V_iadd hE dX5_manyHeld_25 ?_
        refine V_istore_n hE dX5_manyHeld_26 rfl ?_
        refine V_iinc hE dX5_manyHeld_27 rfl rfl ?_
        refine V_goto hE 4 dX5_manyHeld_30 (by decide) ?_
        exact ih _ _ (by omega) (by omega) (by rw [cnt_step _ (by omega), ← ha]; simp [h17])
set_option maxRecDepth 100000 in
set_option maxHeartbeats 4000000 in
theorem c_X5_manyHeld {K : Ctx} {σ : Sto} (hI : IM σ) : CtI K mX5_manyHeld 0 [.ref (kA K 19)] σ (fun r σ' => r = heldS (σ 22) ∧ σ' = σ) := by
  refine CtI_of (L := [some (.ref (kA K 19)), none, none]) (by decide) rfl rfl rfl ?_
  intro E hE hR
  refine V_iconst hE dX5_manyHeld_0 ?_
  refine V_istore_n hE dX5_manyHeld_1 rfl ?_
  refine V_iconst hE dX5_manyHeld_2 ?_
  refine V_istore_n hE dX5_manyHeld_3 rfl ?_
  exact lp_X5_manyHeld_4 hI hE hR 100 0 0 (by omega) (by omega) rfl
set_option maxRecDepth 100000 in
set_option maxHeartbeats 4000000 in
theorem lp_X5_farOff_4 {K : Ctx} {E : ME} {σ : Sto} (hI : IM σ) (hE : Ok K E mX5_farOff 1) (hR : RetI K E mX5_farOff (fun r σ' => r = farS (σ 20) (σ 21) ∧ σ' = σ)) : ∀ (n : Nat) (i : Int) (a : Int), 63 - i < n → (0 ≤ i ∧ i ≤ 63) → (a = fsum (fun i => (((σ 20 i - σ 21 i).natAbs : Nat) : Int)) i.toNat) → V K E mX5_farOff 4 [some (.ref (kA K 19)), some (.int (i32 a)), some (.int (i32 i))] [] σ := by
  intro n
  induction n with
  | zero =>
    intro i a hm hi ha
    exfalso; omega
  | succ n ih =>
    intro i a hm hi ha
    obtain ⟨hS, hW, hB, hRe, hLo, hHi, hO, hPu, hHe, hAt⟩ := id hI
    have h9 := hO i.toNat
    have h8 := hPu i.toNat
    refine V_iload_n hE dX5_farOff_4 rfl ?_
    refine V_bipush hE dX5_farOff_5 (by decide) ?_
    refine V_icmp_ge hE 35 dX5_farOff_7 (by decide) (by omega) (fun h7 => ?_) (fun h7 => ?_)
    · refine V_iload_n hE dX5_farOff_35 rfl ?_
      refine V_ireturn hR dX5_farOff_36 ?_
      exact ⟨by rw [ha, show i = 63 by omega]; rfl, rfl⟩
    · refine V_iload_n hE dX5_farOff_10 rfl ?_
      refine V_aload_n hE dX5_farOff_11 rfl ?_
      refine gf_X5_22 hE rfl dX5_farOff_12 ?_
      refine V_iload_n hE dX5_farOff_15 rfl ?_
      refine V_iaload hE dX5_farOff_16 rfl (by omega) ?_
      refine V_aload_n hE dX5_farOff_17 rfl ?_
      refine gf_X5_26 hE rfl dX5_farOff_18 ?_
      refine V_iload_n hE dX5_farOff_21 rfl ?_
      refine V_iaload hE dX5_farOff_22 rfl (by omega) ?_
      refine V_isub hE dX5_farOff_23 ?_
      refine cf_X5_120 hE rfl dX5_farOff_24 (c_X5_far (by omega)) rfl rfl ?_
      refine V_iadd hE dX5_farOff_27 ?_
      refine V_istore_n hE dX5_farOff_28 rfl ?_
      refine V_iinc hE dX5_farOff_29 rfl rfl ?_
      refine V_goto hE 4 dX5_farOff_32 (by decide) ?_
      exact ih _ _ (by omega) (by omega) (by rw [fsum_step _ (by omega), ← ha])
set_option maxRecDepth 100000 in
set_option maxHeartbeats 4000000 in
theorem c_X5_farOff {K : Ctx} {σ : Sto} (hI : IM σ) : CtI K mX5_farOff 1 [.ref (kA K 19)] σ (fun r σ' => r = farS (σ 20) (σ 21) ∧ σ' = σ) := by
  refine CtI_of (L := [some (.ref (kA K 19)), none, none]) (by decide) rfl rfl rfl ?_
  intro E hE hR
  refine V_iconst hE dX5_farOff_0 ?_
  refine V_istore_n hE dX5_farOff_1 rfl ?_
  refine V_iconst hE dX5_farOff_2 ?_
  refine V_istore_n hE dX5_farOff_3 rfl ?_
  exact lp_X5_farOff_4 hI hE hR 100 0 0 (by omega) (by omega) rfl
set_option maxRecDepth 100000 in
set_option maxHeartbeats 4000000 in
theorem c_X5_many {K : Ctx} {σ : Sto} {w : Int} (hI : IM σ) (hw : InI w) : CtI K mX5_many 4 [.ref (kA K 19), .int (i32 w)] σ (fun r σ' => r = manyS (σ 20) (σ 21) (σ 22) (σ 110 0) (σ 111 0) (σ 112 0) w ∧ SmM σ σ') := by
  obtain ⟨hS, hW, hB, hRe, hLo, hHi, hO, hPu, hHe, hAt⟩ := id hI
  refine CtI_of (L := [some (.ref (kA K 19)), some (.int (i32 w))]) (by decide) rfl rfl rfl ?_
  intro E hE hR
  refine V_iload_n hE dX5_many_0 rfl ?_
  refine V_sw5 hE 36 41 46 51 56 61 dX5_many_1 (by omega) (by decide) (by decide) (by decide) (fun h1 => ?_) (fun h1 => ?_) (fun h1 => ?_) (fun h1 => ?_) (fun h1 => ?_) (fun h1 => ?_)
  · refine V_bipush hE dX5_many_61 (by decide) ?_
    refine V_ireturn hR dX5_many_63 ?_
    exact ⟨by unfold manyS; rw [if_neg (by omega), if_neg (by omega), if_neg (by omega), if_neg (by omega), if_neg (by omega)], SmM_rf hAt⟩
  · refine V_aload_n hE dX5_many_36 rfl ?_
    refine gf_X5_61 hE rfl dX5_many_37 ?_
    refine V_ireturn hR dX5_many_40 ?_
    exact ⟨by unfold manyS; rw [if_pos h1], SmM_rf hAt⟩
  · refine V_aload_n hE dX5_many_41 rfl ?_
    refine gf_X5_64 hE rfl dX5_many_42 ?_
    refine V_ireturn hR dX5_many_45 ?_
    exact ⟨by unfold manyS; rw [if_neg (by omega), if_pos h1], SmM_rf hAt⟩
  · refine V_aload_n hE dX5_many_46 rfl ?_
    refine cf_X5_214 hE rfl dX5_many_47 (c_X5_manyHeld hI) rfl rfl ?_
    refine V_ireturn hR dX5_many_50 ?_
    exact ⟨by unfold manyS; rw [if_neg (by omega), if_neg (by omega), if_pos h1], SmM_rf hAt⟩
  · refine V_aload_n hE dX5_many_51 rfl ?_
    refine cl_X5_217 hE rfl dX5_many_52 (c_X5_manyRough hI) rfl rfl ?_
    rintro r σ1 ⟨hr, hs⟩
    refine V_ireturn hR dX5_many_55 ?_
    exact ⟨by unfold manyS; rw [if_neg (by omega), if_neg (by omega), if_neg (by omega), if_pos h1]; exact hr, hs⟩
  · refine V_aload_n hE dX5_many_56 rfl ?_
    refine cf_X5_220 hE rfl dX5_many_57 (c_X5_farOff hI) rfl rfl ?_
    refine V_ireturn hR dX5_many_60 ?_
    exact ⟨by unfold manyS; rw [if_neg (by omega), if_neg (by omega), if_neg (by omega), if_neg (by omega), if_pos h1], SmM_rf hAt⟩
end
section
def rgI (f : Nat → Int) (v k : Int) : Nat → Int × Int → Int × Int
  | 0, a => a
  | m + 1, a => if (rgI f v k m a).1 < ((jm f (m + 1)).natAbs : Nat) then ((((jm f (m + 1)).natAbs : Nat) : Int), 100 * v + 10 * k + (m + 1)) else rgI f v k m a
theorem rgI_step (f : Nat → Int) (v k : Int) (a : Int × Int) {i : Int} (h : 1 ≤ i) : rgI f v k (i + 1 - 1).toNat a = (if (rgI f v k (i - 1).toNat a).1 < ((jm f i).natAbs : Nat) then ((((jm f i).natAbs : Nat) : Int), 100 * v + 10 * k + i) else rgI f v k (i - 1).toNat a) := by
  rw [show (i + 1 - 1).toNat = (i - 1).toNat + 1 by omega, rgI, show (((i - 1).toNat : Nat) : Int) + 1 = i by omega]
theorem rgI_congr {f g : Nat → Int} {n : Int} (v k : Int) (a : Int × Int) (h : ∀ i : Nat, (i : Int) < n → f i = g i) (m : Nat) (hm : (m : Int) ≤ n - 3) : rgI f v k m a = rgI g v k m a := by
  induction m with
  | zero => rfl
  | succ m ih => rw [rgI, rgI, ih (by omega), jm_congr h (by omega)]
def rgStep (o : Nat → Int) (S W v k : Int) (a : Int × Int) : Int × Int := rgI (lnf o v k) v k ((if v = 0 then S else W) - 3).toNat a
def rgA (o : Nat → Int) (S W : Int) : Int × Int := itL (rgStep o S W) 1 S.toNat (itL (rgStep o S W) 0 W.toNat (-1, 0))
def rgS (o : Nat → Int) (S W w : Int) : Int := if ¬(0 ≤ w ∧ w ≤ 3) then -2 else if w = 0 then (rgA o S W).1 else if w = 1 then (rgA o S W).2 / 100 else if w = 2 then (rgA o S W).2 / 10 % 10 else (rgA o S W).2 % 10
abbrev rgOk (a : Int × Int) : Prop := (-1 ≤ a.1 ∧ a.1 ≤ 7992) ∧ 0 ≤ a.2 ∧ a.2 ≤ 199
def ofPS (o p h : Nat → Int) (S W s l w : Int) : Int := if ¬(0 ≤ s ∧ s < S ∧ 0 ≤ l ∧ l < W) then -1 else if w = 0 then o (7 * s + l).toNat else if w = 1 then (if h (7 * s + l).toNat = 0 then 0 else 1) else if w = 2 then o (7 * s + l).toNat - p (7 * s + l).toNat else -2
def HullQM (σ : Sto) (s l : Int) (σ' : Sto) : Prop := Fr [110, 111, 20, 21, 22] σ σ' ∧ σ' 110 0 = s ∧ σ' 111 0 = l ∧ σ' 20 = lay0 63 (σ 20) (fun _ => 0) ∧ σ' 21 = lay0 63 (σ 21) (fun _ => 0) ∧ σ' 22 = lay0 63 (σ 22) (fun _ => 0)
end
section
set_option maxRecDepth 100000 in
set_option maxHeartbeats 4000000 in
theorem c_X5_offset {K : Ctx} {σ : Sto} {s l v : Int} (hI : IM σ) (hv : InI s ∧ InI l ∧ InI v) : CtI K mX5_offset 2 [.ref (kA K 19), .int (i32 s), .int (i32 l), .int (i32 v)] σ (fun r σ' => r = (if ¬(0 ≤ s ∧ s < σ 110 0 ∧ 0 ≤ l ∧ l < σ 111 0) then -1 else if ¬(0 ≤ v ∧ v ≤ 999) then -2 else σ 20 (7 * s + l).toNat) ∧ σ' = (if (0 ≤ s ∧ s < σ 110 0 ∧ 0 ≤ l ∧ l < σ 111 0) ∧ 0 ≤ v ∧ v ≤ 999 then up (up σ 20 (7 * s + l).toNat v) 21 (7 * s + l).toNat v else σ)) := by
  obtain ⟨hS, hW, hB, hRe, hLo, hHi, hO, hPu, hHe, hAt⟩ := id hI
  refine CtI_of (L := [some (.ref (kA K 19)), some (.int (i32 s)), some (.int (i32 l)), some (.int (i32 v)), none]) (by decide) rfl rfl rfl ?_
  intro E hE hR
  refine V_aload_n hE dX5_offset_0 rfl ?_
  refine V_iload_n hE dX5_offset_1 rfl ?_
  refine V_iload_n hE dX5_offset_2 rfl ?_
  refine cf_X5_81 hE rfl dX5_offset_3 (c_X5_isPoint hI (by omega)) rfl rfl ?_
  refine V_if_ne hE 11 dX5_offset_6 (by decide) (by omega) (fun h6 => ?_) (fun h6 => ?_)
  · refine V_iload_n hE dX5_offset_11 rfl ?_
    refine cf_X5_85 hE rfl dX5_offset_12 (c_X5_isOffset (by omega)) rfl rfl ?_
    refine V_if_ne hE 21 dX5_offset_15 (by decide) (by omega) (fun h15 => ?_) (fun h15 => ?_)
    · refine V_aload_n hE dX5_offset_21 rfl ?_
      refine gf_X5_22 hE rfl dX5_offset_22 ?_
      refine V_bipush hE dX5_offset_25 (by decide) ?_
      refine V_iload_n hE dX5_offset_27 rfl ?_
      refine V_imul hE dX5_offset_28 ?_
      refine V_iload_n hE dX5_offset_29 rfl ?_
      refine V_iadd hE dX5_offset_30 ?_
      refine V_iaload hE dX5_offset_31 rfl (by omega) ?_
      refine V_istore hE dX5_offset_32 rfl ?_
      refine V_aload_n hE dX5_offset_34 rfl ?_
      refine gf_X5_22 hE rfl dX5_offset_35 ?_
      refine V_bipush hE dX5_offset_38 (by decide) ?_
      refine V_iload_n hE dX5_offset_40 rfl ?_
      refine V_imul hE dX5_offset_41 ?_
      refine V_iload_n hE dX5_offset_42 rfl ?_
      refine V_iadd hE dX5_offset_43 ?_
      refine V_iload_n hE dX5_offset_44 rfl ?_
      refine V_iastore hE dX5_offset_45 rfl (by omega) ?_
      refine V_aload_n hE dX5_offset_46 rfl ?_
      refine gf_X5_26 hE rfl dX5_offset_47 ?_
      refine V_bipush hE dX5_offset_50 (by decide) ?_
      refine V_iload_n hE dX5_offset_52 rfl ?_
      refine V_imul hE dX5_offset_53 ?_
      refine V_iload_n hE dX5_offset_54 rfl ?_
      refine V_iadd hE dX5_offset_55 ?_
      refine V_iload_n hE dX5_offset_56 rfl ?_
      refine V_iastore hE dX5_offset_57 rfl (by omega) ?_
      refine V_iload hE dX5_offset_58 rfl ?_
      refine V_ireturn hR dX5_offset_60 ?_
      exact ⟨by omega, by rw [if_pos (by omega)]⟩
    · refine V_bipush hE dX5_offset_18 (by decide) ?_
      refine V_ireturn hR dX5_offset_20 ?_
      exact ⟨by omega, by rw [if_neg (by omega)]⟩
  · refine V_iconst hE dX5_offset_9 ?_
    refine V_ireturn hR dX5_offset_10 ?_
    exact ⟨by omega, by rw [if_neg (by omega)]⟩
set_option maxRecDepth 100000 in
set_option maxHeartbeats 4000000 in
theorem c_X5_hold {K : Ctx} {σ : Sto} {s l b : Int} (hI : IM σ) (hv : InI s ∧ InI l) (hb : b = 0 ∨ b = 1) : CtI K mX5_hold 2 [.ref (kA K 19), .int (i32 s), .int (i32 l), .int (i32 b)] σ (fun r σ' => r = (if ¬(0 ≤ s ∧ s < σ 110 0 ∧ 0 ≤ l ∧ l < σ 111 0) then -1 else if σ 22 (7 * s + l).toNat = b then 0 else 1) ∧ σ' = (if (0 ≤ s ∧ s < σ 110 0 ∧ 0 ≤ l ∧ l < σ 111 0) then up σ 22 (7 * s + l).toNat b else σ)) := by
  obtain ⟨hS, hW, hB, hRe, hLo, hHi, hO, hPu, hHe, hAt⟩ := id hI
  have h9 := hHe (7 * s + l).toNat
  refine CtI_of (L := [some (.ref (kA K 19)), some (.int (i32 s)), some (.int (i32 l)), some (.int (i32 b)), none]) (by decide) rfl rfl rfl ?_
  intro E hE hR
  refine V_aload_n hE dX5_hold_0 rfl ?_
  refine V_iload_n hE dX5_hold_1 rfl ?_
  refine V_iload_n hE dX5_hold_2 rfl ?_
  refine cf_X5_81 hE rfl dX5_hold_3 (c_X5_isPoint hI (by omega)) rfl rfl ?_
  refine V_if_ne hE 11 dX5_hold_6 (by decide) (by omega) (fun h6 => ?_) (fun h6 => ?_)
  · refine V_aload_n hE dX5_hold_11 rfl ?_
    refine gf_X5_29 hE rfl dX5_hold_12 ?_
    refine V_bipush hE dX5_hold_15 (by decide) ?_
    refine V_iload_n hE dX5_hold_17 rfl ?_
    refine V_imul hE dX5_hold_18 ?_
    refine V_iload_n hE dX5_hold_19 rfl ?_
    refine V_iadd hE dX5_hold_20 ?_
    refine V_baload hE dX5_hold_21 rfl (by omega) ?_
    refine V_istore hE dX5_hold_22 rfl ?_
    refine V_aload_n hE dX5_hold_24 rfl ?_
    refine gf_X5_29 hE rfl dX5_hold_25 ?_
    refine V_bipush hE dX5_hold_28 (by decide) ?_
    refine V_iload_n hE dX5_hold_30 rfl ?_
    refine V_imul hE dX5_hold_31 ?_
    refine V_iload_n hE dX5_hold_32 rfl ?_
    refine V_iadd hE dX5_hold_33 ?_
    refine V_iload_n hE dX5_hold_34 rfl ?_
    refine V_bastore hE dX5_hold_35 rfl (by omega) (by omega) ?_
    refine V_iload hE dX5_hold_36 rfl ?_
    refine V_iload_n hE dX5_hold_38 rfl ?_
    refine V_icmp_ne hE 46 dX5_hold_39 (by decide) (by omega) (fun h39 => ?_) (fun h39 => ?_)
    · refine V_iconst hE dX5_hold_46 ?_
      refine V_ireturn hR dX5_hold_47 ?_
      exact ⟨by omega, by rw [if_pos (by omega)]⟩
    · refine V_iconst hE dX5_hold_42 ?_
      refine V_goto hE 47 dX5_hold_43 (by decide) ?_
      refine V_ireturn hR dX5_hold_47 ?_
      exact ⟨by omega, by rw [if_pos (by omega)]⟩
  · refine V_iconst hE dX5_hold_9 ?_
    refine V_ireturn hR dX5_hold_10 ?_
    exact ⟨by omega, by rw [if_neg (by omega)]⟩
set_option maxRecDepth 100000 in
set_option maxHeartbeats 4000000 in
theorem c_X5_setting {K : Ctx} {σ : Sto} {k v : Int} (hI : IM σ) (hv : InI k ∧ InI v) : CtI K mX5_setting 1 [.ref (kA K 19), .int (i32 k), .int (i32 v)] σ (fun r σ' => r = (if ((k = 0 ∧ 0 ≤ v ∧ v ≤ 999) ∨ (k = 1 ∧ 0 ≤ v ∧ v ≤ 3) ∨ ((k = 2 ∨ k = 3) ∧ 1 ≤ v ∧ v ≤ 99)) then σ (112 + k.toNat) 0 else -2) ∧ σ' = (if ((k = 0 ∧ 0 ≤ v ∧ v ≤ 999) ∨ (k = 1 ∧ 0 ≤ v ∧ v ≤ 3) ∨ ((k = 2 ∨ k = 3) ∧ 1 ≤ v ∧ v ≤ 99)) then up σ (112 + k.toNat) 0 v else σ)) := by
  obtain ⟨hS, hW, hB, hRe, hLo, hHi, hO, hPu, hHe, hAt⟩ := id hI
  refine CtI_of (L := [some (.ref (kA K 19)), some (.int (i32 k)), some (.int (i32 v)), none]) (by decide) rfl rfl rfl ?_
  intro E hE hR
  refine V_iconst hE dX5_setting_0 ?_
  refine V_istore_n hE dX5_setting_1 rfl ?_
  refine V_iload_n hE dX5_setting_2 rfl ?_
  refine V_sw4 hE 32 59 86 113 140 dX5_setting_3 (by omega) (by decide) (by decide) (by decide) (fun h3 => ?_) (fun h3 => ?_) (fun h3 => ?_) (fun h3 => ?_) (fun h3 => ?_)
  · refine V_bipush hE dX5_setting_140 (by decide) ?_
    refine V_ireturn hR dX5_setting_142 ?_
    exact ⟨by rw [if_neg (by omega)], by rw [if_neg (by omega)]⟩
  · refine V_iload_n hE dX5_setting_32 rfl ?_
    refine V_i2l hE dX5_setting_33 (by omega) ?_
    refine V_lconst0 hE dX5_setting_34 ?_
    refine V_ldc2 hE tw_cl_X5_71 dX5_setting_35 ?_
    refine cf_X5_67 hE rfl dX5_setting_38 (c_X5_within (by omega)) rfl rfl ?_
    refine V_if_ne hE 47 dX5_setting_41 (by decide) (by omega) (fun h41 => ?_) (fun h41 => ?_)
    · refine V_aload_n hE dX5_setting_47 rfl ?_
      refine gf_X5_7 hE rfl dX5_setting_48 ?_
      refine V_istore_n hE dX5_setting_51 rfl ?_
      refine V_aload_n hE dX5_setting_52 rfl ?_
      refine V_iload_n hE dX5_setting_53 rfl ?_
      refine pf_X5_7 hE rfl dX5_setting_54 ?_
      refine V_iload_n hE dX5_setting_57 rfl ?_
      refine V_ireturn hR dX5_setting_58 ?_
      subst h3
      exact ⟨by rw [if_pos (by omega)]; rfl, by rw [if_pos (by omega)]; rfl⟩
    · refine V_bipush hE dX5_setting_44 (by decide) ?_
      refine V_ireturn hR dX5_setting_46 ?_
      exact ⟨by rw [if_neg (by omega)], by rw [if_neg (by omega)]⟩
  · refine V_iload_n hE dX5_setting_59 rfl ?_
    refine V_i2l hE dX5_setting_60 (by omega) ?_
    refine V_lconst0 hE dX5_setting_61 ?_
    refine V_ldc2 hE tw_cl_X5_89 dX5_setting_62 ?_
    refine cf_X5_67 hE rfl dX5_setting_65 (c_X5_within (by omega)) rfl rfl ?_
    refine V_if_ne hE 74 dX5_setting_68 (by decide) (by omega) (fun h68 => ?_) (fun h68 => ?_)
    · refine V_aload_n hE dX5_setting_74 rfl ?_
      refine gf_X5_13 hE rfl dX5_setting_75 ?_
      refine V_istore_n hE dX5_setting_78 rfl ?_
      refine V_aload_n hE dX5_setting_79 rfl ?_
      refine V_iload_n hE dX5_setting_80 rfl ?_
      refine pf_X5_13 hE rfl dX5_setting_81 ?_
      refine V_iload_n hE dX5_setting_84 rfl ?_
      refine V_ireturn hR dX5_setting_85 ?_
      subst h3
      exact ⟨by rw [if_pos (by omega)]; rfl, by rw [if_pos (by omega)]; rfl⟩
    · refine V_bipush hE dX5_setting_71 (by decide) ?_
      refine V_ireturn hR dX5_setting_73 ?_
      exact ⟨by rw [if_neg (by omega)], by rw [if_neg (by omega)]⟩
  · refine V_iload_n hE dX5_setting_86 rfl ?_
    refine V_i2l hE dX5_setting_87 (by omega) ?_
    refine V_lconst1 hE dX5_setting_88 ?_
    refine V_ldc2 hE tw_cl_X5_91 dX5_setting_89 ?_
    refine cf_X5_67 hE rfl dX5_setting_92 (c_X5_within (by omega)) rfl rfl ?_
    refine V_if_ne hE 101 dX5_setting_95 (by decide) (by omega) (fun h95 => ?_) (fun h95 => ?_)
    · refine V_aload_n hE dX5_setting_101 rfl ?_
      refine gf_X5_16 hE rfl dX5_setting_102 ?_
      refine V_istore_n hE dX5_setting_105 rfl ?_
      refine V_aload_n hE dX5_setting_106 rfl ?_
      refine V_iload_n hE dX5_setting_107 rfl ?_
      refine pf_X5_16 hE rfl dX5_setting_108 ?_
      refine V_iload_n hE dX5_setting_111 rfl ?_
      refine V_ireturn hR dX5_setting_112 ?_
      subst h3
      exact ⟨by rw [if_pos (by omega)]; rfl, by rw [if_pos (by omega)]; rfl⟩
    · refine V_bipush hE dX5_setting_98 (by decide) ?_
      refine V_ireturn hR dX5_setting_100 ?_
      exact ⟨by rw [if_neg (by omega)], by rw [if_neg (by omega)]⟩
  · refine V_iload_n hE dX5_setting_113 rfl ?_
    refine V_i2l hE dX5_setting_114 (by omega) ?_
    refine V_lconst1 hE dX5_setting_115 ?_
    refine V_ldc2 hE tw_cl_X5_91 dX5_setting_116 ?_
    refine cf_X5_67 hE rfl dX5_setting_119 (c_X5_within (by omega)) rfl rfl ?_
    refine V_if_ne hE 128 dX5_setting_122 (by decide) (by omega) (fun h122 => ?_) (fun h122 => ?_)
    · refine V_aload_n hE dX5_setting_128 rfl ?_
      refine gf_X5_19 hE rfl dX5_setting_129 ?_
      refine V_istore_n hE dX5_setting_132 rfl ?_
      refine V_aload_n hE dX5_setting_133 rfl ?_
      refine V_iload_n hE dX5_setting_134 rfl ?_
      refine pf_X5_19 hE rfl dX5_setting_135 ?_
      refine V_iload_n hE dX5_setting_138 rfl ?_
      refine V_ireturn hR dX5_setting_139 ?_
      subst h3
      exact ⟨by rw [if_pos (by omega)]; rfl, by rw [if_pos (by omega)]; rfl⟩
    · refine V_bipush hE dX5_setting_125 (by decide) ?_
      refine V_ireturn hR dX5_setting_127 ?_
      exact ⟨by rw [if_neg (by omega)], by rw [if_neg (by omega)]⟩
set_option maxRecDepth 100000 in
set_option maxHeartbeats 4000000 in
theorem c_X5_ofPoint {K : Ctx} {σ : Sto} {s l w : Int} (hI : IM σ) (hv : InI s ∧ InI l ∧ InI w) : CtI K mX5_ofPoint 2 [.ref (kA K 19), .int (i32 s), .int (i32 l), .int (i32 w)] σ (fun r σ' => r = ofPS (σ 20) (σ 21) (σ 22) (σ 110 0) (σ 111 0) s l w ∧ σ' = σ) := by
  obtain ⟨hS, hW, hB, hRe, hLo, hHi, hO, hPu, hHe, hAt⟩ := id hI
  have h9 := hHe (7 * s + l).toNat
  refine CtI_of (L := [some (.ref (kA K 19)), some (.int (i32 s)), some (.int (i32 l)), some (.int (i32 w)), none]) (by decide) rfl rfl rfl ?_
  intro E hE hR
  refine V_aload_n hE dX5_ofPoint_0 rfl ?_
  refine V_iload_n hE dX5_ofPoint_1 rfl ?_
  refine V_iload_n hE dX5_ofPoint_2 rfl ?_
  refine cf_X5_81 hE rfl dX5_ofPoint_3 (c_X5_isPoint hI (by omega)) rfl rfl ?_
  refine V_if_ne hE 11 dX5_ofPoint_6 (by decide) (by omega) (fun h6 => ?_) (fun h6 => ?_)
  · refine V_bipush hE dX5_ofPoint_11 (by decide) ?_
    refine V_iload_n hE dX5_ofPoint_13 rfl ?_
    refine V_imul hE dX5_ofPoint_14 ?_
    refine V_iload_n hE dX5_ofPoint_15 rfl ?_
    refine V_iadd hE dX5_ofPoint_16 ?_
    refine V_istore hE dX5_ofPoint_17 rfl ?_
    refine V_iload_n hE dX5_ofPoint_19 rfl ?_
    refine V_sw3 hE 48 56 72 88 dX5_ofPoint_20 (by omega) (by decide) (by decide) (by decide) (fun h20 => ?_) (fun h20 => ?_) (fun h20 => ?_) (fun h20 => ?_)
    · refine V_bipush hE dX5_ofPoint_88 (by decide) ?_
      refine V_ireturn hR dX5_ofPoint_90 ?_
      exact ⟨by unfold ofPS; omega, rfl⟩
    · refine V_aload_n hE dX5_ofPoint_48 rfl ?_
      refine gf_X5_22 hE rfl dX5_ofPoint_49 ?_
      refine V_iload hE dX5_ofPoint_52 rfl ?_
      refine V_iaload hE dX5_ofPoint_54 rfl (by omega) ?_
      refine V_ireturn hR dX5_ofPoint_55 ?_
      exact ⟨by unfold ofPS; omega, rfl⟩
    · refine V_aload_n hE dX5_ofPoint_56 rfl ?_
      refine gf_X5_29 hE rfl dX5_ofPoint_57 ?_
      refine V_iload hE dX5_ofPoint_60 rfl ?_
      refine V_baload hE dX5_ofPoint_62 rfl (by omega) ?_
      refine V_if_eq hE 70 dX5_ofPoint_63 (by decide) (by omega) (fun h63 => ?_) (fun h63 => ?_)
      · refine V_iconst hE dX5_ofPoint_70 ?_
        refine V_ireturn hR dX5_ofPoint_71 ?_
        exact ⟨by unfold ofPS; omega, rfl⟩
      · refine V_iconst hE dX5_ofPoint_66 ?_
        refine V_goto hE 71 dX5_ofPoint_67 (by decide) ?_
        refine V_ireturn hR dX5_ofPoint_71 ?_
        exact ⟨by unfold ofPS; omega, rfl⟩
    · refine V_aload_n hE dX5_ofPoint_72 rfl ?_
      refine gf_X5_22 hE rfl dX5_ofPoint_73 ?_
      refine V_iload hE dX5_ofPoint_76 rfl ?_
      refine V_iaload hE dX5_ofPoint_78 rfl (by omega) ?_
      refine V_aload_n hE dX5_ofPoint_79 rfl ?_
      refine gf_X5_26 hE rfl dX5_ofPoint_80 ?_
      refine V_iload hE dX5_ofPoint_83 rfl ?_
      refine V_iaload hE dX5_ofPoint_85 rfl (by omega) ?_
      refine V_isub hE dX5_ofPoint_86 ?_
      refine V_ireturn hR dX5_ofPoint_87 ?_
      exact ⟨by unfold ofPS; omega, rfl⟩
  · refine V_iconst hE dX5_ofPoint_9 ?_
    refine V_ireturn hR dX5_ofPoint_10 ?_
    exact ⟨by unfold ofPS; omega, rfl⟩
set_option maxRecDepth 100000 in
set_option maxHeartbeats 4000000 in
theorem lp_X5_hull_43 {K : Ctx} {E : ME} {σ : Sto} {s l : Int} (hsl : 5 ≤ s ∧ s ≤ 9 ∧ 4 ≤ l ∧ l ≤ 7) (hE : Ok K E mX5_hull 1) (hR : RetI K E mX5_hull (fun r σ' => ((5 ≤ s ∧ s ≤ 9 ∧ 4 ≤ l ∧ l ≤ 7) ∧ r = 1 ∧ HullQM σ s l σ') ∨ (¬(5 ≤ s ∧ s ≤ 9 ∧ 4 ≤ l ∧ l ≤ 7) ∧ r = -2 ∧ σ' = σ))) : ∀ (n : Nat) (i : Int) (σ1 : Sto), 63 - i < n → (0 ≤ i ∧ i ≤ 63) → (Fr [110, 111, 20, 21, 22] σ σ1) → (σ1 110 0 = s) → (σ1 111 0 = l) → (∀ j : Nat, σ1 20 j = if (j : Int) < i then 0 else σ 20 j) → (∀ j : Nat, σ1 21 j = if (j : Int) < i then 0 else σ 21 j) → (∀ j : Nat, σ1 22 j = if (j : Int) < i then 0 else σ 22 j) → V K E mX5_hull 43 [some (.ref (kA K 19)), some (.int (i32 s)), some (.int (i32 l)), some (.int (i32 i))] [] σ1 := by
  intro n
  induction n with
  | zero =>
    intro i σ1 hm hi hF h110 h111 h20 h21 h22
    exfalso; omega
  | succ n ih =>
    intro i σ1 hm hi hF h110 h111 h20 h21 h22
    refine V_iload_n hE dX5_hull_43 rfl ?_
    refine V_bipush hE dX5_hull_44 (by decide) ?_
    refine V_icmp_ge hE 76 dX5_hull_46 (by decide) (by omega) (fun h46 => ?_) (fun h46 => ?_)
    · refine V_iconst hE dX5_hull_76 ?_
      refine V_ireturn hR dX5_hull_77 ?_
      have e : i = 63 := by omega
      subst e
      refine Or.inl ⟨hsl, rfl, hF, h110, h111, ?_, ?_, ?_⟩
      · funext j; rw [h20 j, lay0]; simp only [show ((j : Int) < 63) = (j < 63) from by simp; omega]
      · funext j; rw [h21 j, lay0]; simp only [show ((j : Int) < 63) = (j < 63) from by simp; omega]
      · funext j; rw [h22 j, lay0]; simp only [show ((j : Int) < 63) = (j < 63) from by simp; omega]
    · refine V_aload_n hE dX5_hull_49 rfl ?_
      refine gf_X5_22 hE rfl dX5_hull_50 ?_
      refine V_iload_n hE dX5_hull_53 rfl ?_
      refine V_iconst hE dX5_hull_54 ?_
      refine V_iastore hE dX5_hull_55 rfl (by omega) ?_
      refine V_aload_n hE dX5_hull_56 rfl ?_
      refine gf_X5_26 hE rfl dX5_hull_57 ?_
      refine V_iload_n hE dX5_hull_60 rfl ?_
      refine V_iconst hE dX5_hull_61 ?_
      refine V_iastore hE dX5_hull_62 rfl (by omega) ?_
      refine V_aload_n hE dX5_hull_63 rfl ?_
      refine gf_X5_29 hE rfl dX5_hull_64 ?_
      refine V_iload_n hE dX5_hull_67 rfl ?_
      refine V_iconst hE dX5_hull_68 ?_
      refine V_bastore hE dX5_hull_69 rfl (by omega) (Or.inl rfl) ?_
      refine V_iinc hE dX5_hull_70 rfl rfl ?_
      refine V_goto hE 43 dX5_hull_73 (by decide) ?_
      refine ih _ _ (by omega) (by omega) (Fr_up (Fr_up (Fr_up hF (by decide)) (by decide)) (by decide)) ?_ ?_ ?_ ?_ ?_
      · simpa [up] using h110
      · simpa [up] using h111
      · intro j
        have h9 := h20 j
        by_cases e : j = i.toNat
        · simp [up, e]; omega
        · simp [up, e]; rw [h9]; split <;> split <;> omega
      · intro j
        have h9 := h21 j
        by_cases e : j = i.toNat
        · simp [up, e]; omega
        · simp [up, e]; rw [h9]; split <;> split <;> omega
      · intro j
        have h9 := h22 j
        by_cases e : j = i.toNat
        · simp [up, e]; omega
        · simp [up, e]; rw [h9]; split <;> split <;> omega
set_option maxRecDepth 100000 in
set_option maxHeartbeats 4000000 in
theorem c_X5_hull {K : Ctx} {σ : Sto} {s l : Int} (hv : InI s ∧ InI l) : CtI K mX5_hull 1 [.ref (kA K 19), .int (i32 s), .int (i32 l)] σ (fun r σ' => ((5 ≤ s ∧ s ≤ 9 ∧ 4 ≤ l ∧ l ≤ 7) ∧ r = 1 ∧ HullQM σ s l σ') ∨ (¬(5 ≤ s ∧ s ≤ 9 ∧ 4 ≤ l ∧ l ≤ 7) ∧ r = -2 ∧ σ' = σ)) := by
  refine CtI_of (L := [some (.ref (kA K 19)), some (.int (i32 s)), some (.int (i32 l)), none]) (by decide) rfl rfl rfl ?_
  intro E hE hR
  refine V_iload_n hE dX5_hull_0 rfl ?_
  refine V_i2l hE dX5_hull_1 (by omega) ?_
  refine V_ldc2 hE tw_cl_X5_73 dX5_hull_2 ?_
  refine V_ldc2 hE tw_cl_X5_75 dX5_hull_5 ?_
  refine cf_X5_67 hE rfl dX5_hull_8 (c_X5_within (by omega)) rfl rfl ?_
  refine V_if_eq hE 28 dX5_hull_11 (by decide) (by omega) (fun h11 => ?_) (fun h11 => ?_)
  · refine V_bipush hE dX5_hull_28 (by decide) ?_
    refine V_ireturn hR dX5_hull_30 ?_
    exact Or.inr ⟨by omega, rfl, rfl⟩
  · refine V_iload_n hE dX5_hull_14 rfl ?_
    refine V_i2l hE dX5_hull_15 (by omega) ?_
    refine V_ldc2 hE tw_cl_X5_77 dX5_hull_16 ?_
    refine V_ldc2 hE tw_cl_X5_79 dX5_hull_19 ?_
    refine cf_X5_67 hE rfl dX5_hull_22 (c_X5_within (by omega)) rfl rfl ?_
    refine V_if_ne hE 31 dX5_hull_25 (by decide) (by omega) (fun h25 => ?_) (fun h25 => ?_)
    · refine V_aload_n hE dX5_hull_31 rfl ?_
      refine V_iload_n hE dX5_hull_32 rfl ?_
      refine pf_X5_61 hE rfl dX5_hull_33 ?_
      refine V_aload_n hE dX5_hull_36 rfl ?_
      refine V_iload_n hE dX5_hull_37 rfl ?_
      refine pf_X5_64 hE rfl dX5_hull_38 ?_
      refine V_iconst hE dX5_hull_41 ?_
      refine V_istore_n hE dX5_hull_42 rfl ?_
      refine lp_X5_hull_43 (by omega) hE hR 100 0 _ (by omega) (by omega) (Fr_up (Fr_up Fr_rf (by decide)) (by decide)) ?_ ?_ ?_ ?_ ?_
      · simp [up]
      · simp [up]
      · intro j; simp [up]; omega
      · intro j; simp [up]; omega
      · intro j; simp [up]; omega
    · refine V_bipush hE dX5_hull_28 (by decide) ?_
      refine V_ireturn hR dX5_hull_30 ?_
      exact Or.inr ⟨by omega, rfl, rfl⟩
set_option maxRecDepth 100000 in
set_option maxHeartbeats 4000000 in
theorem lp_X5_back_4 {K : Ctx} {E : ME} {σ : Sto} (hI : IM σ) (hE : Ok K E mX5_back 0) (hR : RetI K E mX5_back (fun r σ' => r = backS (σ 20) (σ 21) ∧ Fr [20] σ σ' ∧ σ' 20 = lay0 63 (σ 20) (σ 21))) : ∀ (n : Nat) (i : Int) (a : Int) (σ1 : Sto), 63 - i < n → (0 ≤ i ∧ i ≤ 63) → (a = cnt (fun i => decide (σ 20 i ≠ σ 21 i)) i.toNat) → (Fr [20] σ σ1) → (∀ j : Nat, σ1 20 j = if (j : Int) < i then σ 21 j else σ 20 j) → V K E mX5_back 4 [some (.ref (kA K 19)), some (.int (i32 a)), some (.int (i32 i))] [] σ1 := by
  intro n
  induction n with
  | zero =>
    intro i a σ1 hm hi ha hF h20
    exfalso; omega
  | succ n ih =>
    intro i a σ1 hm hi ha hF h20
    obtain ⟨hS, hW, hB, hRe, hLo, hHi, hO, hPu, hHe, hAt⟩ := id hI
    have e21 : σ1 21 = σ 21 := hF 21 (by decide)
    have e20 : σ1 20 i.toNat = σ 20 i.toNat := by rw [h20]; rw [if_neg (by omega)]
    have h8 := hO i.toNat
    have h7 := hPu i.toNat
    rw [← e21] at h7
    refine V_iload_n hE dX5_back_4 rfl ?_
    refine V_bipush hE dX5_back_5 (by decide) ?_
    refine V_icmp_ge hE 51 dX5_back_7 (by decide) (by omega) (fun h7 => ?_) (fun h7 => ?_)
    · refine V_iload_n hE dX5_back_51 rfl ?_
      refine V_ireturn hR dX5_back_52 ?_
      have e : i = 63 := by omega
      subst e
      refine ⟨by rw [ha]; rfl, hF, ?_⟩
      funext j; rw [h20 j, lay0]; simp only [show ((j : Int) < 63) = (j < 63) from by simp; omega]
    · refine V_iload_n hE dX5_back_10 rfl ?_
      refine V_aload_n hE dX5_back_11 rfl ?_
      refine gf_X5_22 hE rfl dX5_back_12 ?_
      refine V_iload_n hE dX5_back_15 rfl ?_
      refine V_iaload hE dX5_back_16 rfl (by omega) ?_
      refine V_aload_n hE dX5_back_17 rfl ?_
      refine gf_X5_26 hE rfl dX5_back_18 ?_
      refine V_iload_n hE dX5_back_21 rfl ?_
      refine V_iaload hE dX5_back_22 rfl (by omega) ?_
      refine V_icmp_ne hE 30 dX5_back_23 (by decide) (by omega) (fun h23 => ?_) (fun h23 => ?_)
      · refine V_iconst hE dX5_back_30 ?_
        refine V_iadd hE dX5_back_31 ?_
        refine V_istore_n hE dX5_back_32 rfl ?_
        refine V_aload_n hE dX5_back_33 rfl ?_
        refine gf_X5_22 hE rfl dX5_back_34 ?_
        refine V_iload_n hE dX5_back_37 rfl ?_
        refine V_aload_n hE dX5_back_38 rfl ?_
        refine gf_X5_26 hE rfl dX5_back_39 ?_
        refine V_iload_n hE dX5_back_42 rfl ?_
        refine V_iaload hE dX5_back_43 rfl (by omega) ?_
        refine V_iastore hE dX5_back_44 rfl (by omega) ?_
        refine V_iinc hE dX5_back_45 rfl rfl ?_
        refine V_goto hE 4 dX5_back_48 (by decide) ?_
        refine ih _ _ _ (by omega) (by omega) ?_ (Fr_up hF (by decide)) ?_
        · rw [cnt_step _ (by omega), ← ha]
          rw [e20, e21] at h23
          simp [h23]
        · intro j
          have h9 := h20 j
          by_cases e : j = i.toNat
          · subst e; rw [up_at, if_pos rfl, e21, if_pos (by omega)]
          · rw [up_at, if_neg e, h9]; split <;> split <;> omega
      · refine V_iconst hE dX5_back_26 ?_
        refine V_goto hE 31 dX5_back_27 (by decide) ?_
        refine V_iadd hE dX5_back_31 ?_
        refine V_istore_n hE dX5_back_32 rfl ?_
        refine V_aload_n hE dX5_back_33 rfl ?_
        refine gf_X5_22 hE rfl dX5_back_34 ?_
        refine V_iload_n hE dX5_back_37 rfl ?_
        refine V_aload_n hE dX5_back_38 rfl ?_
        refine gf_X5_26 hE rfl dX5_back_39 ?_
        refine V_iload_n hE dX5_back_42 rfl ?_
        refine V_iaload hE dX5_back_43 rfl (by omega) ?_
        refine V_iastore hE dX5_back_44 rfl (by omega) ?_
        refine V_iinc hE dX5_back_45 rfl rfl ?_
        refine V_goto hE 4 dX5_back_48 (by decide) ?_
        refine ih _ _ _ (by omega) (by omega) ?_ (Fr_up hF (by decide)) ?_
        · rw [cnt_step _ (by omega), ← ha]
          rw [e20, e21] at h23
          simp [h23]
        · intro j
          have h9 := h20 j
          by_cases e : j = i.toNat
          · subst e; rw [up_at, if_pos rfl, e21, if_pos (by omega)]
          · rw [up_at, if_neg e, h9]; split <;> split <;> omega
set_option maxRecDepth 100000 in
set_option maxHeartbeats 4000000 in
theorem c_X5_back {K : Ctx} {σ : Sto} (hI : IM σ) : CtI K mX5_back 0 [.ref (kA K 19)] σ (fun r σ' => r = backS (σ 20) (σ 21) ∧ Fr [20] σ σ' ∧ σ' 20 = lay0 63 (σ 20) (σ 21)) := by
  refine CtI_of (L := [some (.ref (kA K 19)), none, none]) (by decide) rfl rfl rfl ?_
  intro E hE hR
  refine V_iconst hE dX5_back_0 ?_
  refine V_istore_n hE dX5_back_1 rfl ?_
  refine V_iconst hE dX5_back_2 ?_
  refine V_istore_n hE dX5_back_3 rfl ?_
  exact lp_X5_back_4 hI hE hR 100 0 0 σ (by omega) (by omega) rfl Fr_rf (fun j => by rw [if_neg (by omega)])
set_option maxRecDepth 100000 in
set_option maxHeartbeats 4000000 in
theorem lp_X5_roughest_53 {K : Ctx} {E : ME} {σ : Sto} (hI : IM σ) (hp : 4 ≤ σ 116 0 ∧ σ 116 0 ≤ 9) {w v k : Int} (hv : (v = 0 ∨ v = 1) ∧ 0 ≤ k ∧ k ≤ 8) {a0 : Int × Int} (ha0 : rgOk a0) (hk : ∀ x6 x7 : Option Value, rgOk (rgI (σ 24) v k (σ 116 0 - 3).toNat a0) → V K E mX5_roughest 133 [some (.ref (kA K 19)), some (.int (i32 w)), some (.int (i32 (rgI (σ 24) v k (σ 116 0 - 3).toNat a0).1)), some (.int (i32 (rgI (σ 24) v k (σ 116 0 - 3).toNat a0).2)), some (.int (i32 v)), some (.int (i32 k)), x6, x7] [] σ) (hE : Ok K E mX5_roughest 5) : ∀ (n : Nat) (i : Int) (a : Int × Int) (x7 : Option Value), σ 116 0 - i < n → (1 ≤ i ∧ i ≤ σ 116 0 - 2) → (a = rgI (σ 24) v k (i - 1).toNat a0) → (rgOk a) → V K E mX5_roughest 53 [some (.ref (kA K 19)), some (.int (i32 w)), some (.int (i32 a.1)), some (.int (i32 a.2)), some (.int (i32 v)), some (.int (i32 k)), some (.int (i32 i)), x7] [] σ := by
  intro n
  induction n with
  | zero =>
    intro i a x7 hm hi ha hok
    exfalso; omega
  | succ n ih =>
    intro i a x7 hm hi ha hok
    obtain ⟨hS, hW, hB, hRe, hLo, hHi, hO, hPu, hHe, hAt⟩ := id hI
    have hj := jm_rng hAt i
    refine V_iload hE dX5_roughest_53 rfl ?_
    refine V_aload_n hE dX5_roughest_55 rfl ?_
    refine gf_X5_97 hE rfl dX5_roughest_56 ?_
    refine V_iconst hE dX5_roughest_59 ?_
    refine V_isub hE dX5_roughest_60 ?_
    refine V_icmp_ge hE 133 dX5_roughest_61 (by decide) (by omega) (fun h61 => ?_) (fun h61 => ?_)
    · have e : i = σ 116 0 - 2 := by omega
      rw [e, show σ 116 0 - 2 - 1 = σ 116 0 - 3 by omega] at ha
      rw [ha] at hok
      rw [ha]
      exact hk _ _ hok
    · refine V_aload_n hE dX5_roughest_64 rfl ?_
      refine V_iload hE dX5_roughest_65 rfl ?_
      refine cf_X5_117 hE rfl dX5_roughest_67 (c_X5_jumpAt (by omega)) rfl rfl ?_
      refine cf_X5_120 hE rfl dX5_roughest_70 (c_X5_far (by omega)) rfl rfl ?_
      refine V_iload_n hE dX5_roughest_73 rfl ?_
      refine V_icmp_le hE 81 dX5_roughest_74 (by decide) (by omega) (fun h74 => ?_) (fun h74 => ?_)
      · refine V_iconst hE dX5_roughest_81 ?_
        refine V_istore hE dX5_roughest_82 rfl ?_
        refine V_iload hE dX5_roughest_84 rfl ?_
        refine V_if_eq hE 101 dX5_roughest_86 (by decide) (by omega) (fun h86 => ?_) (fun h86 => ?_)
        · refine V_iload_n hE dX5_roughest_101 rfl ?_
          refine V_istore_n hE dX5_roughest_102 rfl ?_
          refine V_iload hE dX5_roughest_103 rfl ?_
          refine V_if_eq hE 125 dX5_roughest_105 (by decide) (by omega) (fun h105 => ?_) (fun h105 => ?_)
          · refine V_iload_n hE dX5_roughest_125 rfl ?_
            refine V_istore_n hE dX5_roughest_126 rfl ?_
            refine V_iinc hE dX5_roughest_127 rfl rfl ?_
            refine V_goto hE 53 dX5_roughest_130 (by decide) ?_
            first
              | (exfalso; omega)
              | (refine ih _ a _ (by omega) (by omega) ?_ hok
                 rw [rgI_step _ _ _ _ (by omega), ← ha, if_neg (by omega)])
              | (refine ih _ (_, _) _ (by omega) (by omega) ?_ ?_
                 · rw [rgI_step _ _ _ _ (by omega), ← ha, if_pos (by omega)]
                 · exact ⟨⟨show (-1 : Int) ≤ ((jm (σ 24) i).natAbs : Nat) by omega, show (((jm (σ 24) i).natAbs : Nat) : Int) ≤ 7992 by omega⟩, show 0 ≤ 100 * v + 10 * k + i by omega, show 100 * v + 10 * k + i ≤ 199 by omega⟩)
          · refine V_bipush hE dX5_roughest_108 (by decide) ?_
            refine V_iload hE dX5_roughest_110 rfl ?_
            refine V_imul hE dX5_roughest_112 ?_
            refine V_bipush hE dX5_roughest_113 (by decide) ?_
            refine V_iload hE dX5_roughest_115 rfl ?_
            refine V_imul hE dX5_roughest_117 ?_
            refine V_iadd hE dX5_roughest_118 ?_
            refine V_iload hE dX5_roughest_119 rfl ?_
            refine V_iadd hE dX5_roughest_121 ?_
            refine V_goto hE 126 dX5_roughest_122 (by decide) ?_
            refine V_istore_n hE dX5_roughest_126 rfl ?_
            refine V_iinc hE dX5_roughest_127 rfl rfl ?_
            refine V_goto hE 53 dX5_roughest_130 (by decide) ?_
            first
              | (exfalso; omega)
              | (refine ih _ a _ (by omega) (by omega) ?_ hok
                 rw [rgI_step _ _ _ _ (by omega), ← ha, if_neg (by omega)])
              | (refine ih _ (_, _) _ (by omega) (by omega) ?_ ?_
                 · rw [rgI_step _ _ _ _ (by omega), ← ha, if_pos (by omega)]
                 · exact ⟨⟨show (-1 : Int) ≤ ((jm (σ 24) i).natAbs : Nat) by omega, show (((jm (σ 24) i).natAbs : Nat) : Int) ≤ 7992 by omega⟩, show 0 ≤ 100 * v + 10 * k + i by omega, show 100 * v + 10 * k + i ≤ 199 by omega⟩)
        · refine V_aload_n hE dX5_roughest_89 rfl ?_
          refine V_iload hE dX5_roughest_90 rfl ?_
          refine cf_X5_117 hE rfl dX5_roughest_92 (c_X5_jumpAt (by omega)) rfl rfl ?_
          refine cf_X5_120 hE rfl dX5_roughest_95 (c_X5_far (by omega)) rfl rfl ?_
          refine V_goto hE 102 dX5_roughest_98 (by decide) ?_
          refine V_istore_n hE dX5_roughest_102 rfl ?_
          refine V_iload hE dX5_roughest_103 rfl ?_
          refine V_if_eq hE 125 dX5_roughest_105 (by decide) (by omega) (fun h105 => ?_) (fun h105 => ?_)
          · refine V_iload_n hE dX5_roughest_125 rfl ?_
            refine V_istore_n hE dX5_roughest_126 rfl ?_
            refine V_iinc hE dX5_roughest_127 rfl rfl ?_
            refine V_goto hE 53 dX5_roughest_130 (by decide) ?_
            first
              | (exfalso; omega)
              | (refine ih _ a _ (by omega) (by omega) ?_ hok
                 rw [rgI_step _ _ _ _ (by omega), ← ha, if_neg (by omega)])
              | (refine ih _ (_, _) _ (by omega) (by omega) ?_ ?_
                 · rw [rgI_step _ _ _ _ (by omega), ← ha, if_pos (by omega)]
                 · exact ⟨⟨show (-1 : Int) ≤ ((jm (σ 24) i).natAbs : Nat) by omega, show (((jm (σ 24) i).natAbs : Nat) : Int) ≤ 7992 by omega⟩, show 0 ≤ 100 * v + 10 * k + i by omega, show 100 * v + 10 * k + i ≤ 199 by omega⟩)
          · refine V_bipush hE dX5_roughest_108 (by decide) ?_
            refine V_iload hE dX5_roughest_110 rfl ?_
            refine V_imul hE dX5_roughest_112 ?_
            refine V_bipush hE dX5_roughest_113 (by decide) ?_
            refine V_iload hE dX5_roughest_115 rfl ?_
            refine V_imul hE dX5_roughest_117 ?_
            refine V_iadd hE dX5_roughest_118 ?_
            refine V_iload hE dX5_roughest_119 rfl ?_
            refine V_iadd hE dX5_roughest_121 ?_
            refine V_goto hE 126 dX5_roughest_122 (by decide) ?_
            refine V_istore_n hE dX5_roughest_126 rfl ?_
            refine V_iinc hE dX5_roughest_127 rfl rfl ?_
            refine V_goto hE 53 dX5_roughest_130 (by decide) ?_
            first
              | (exfalso; omega)
              | (refine ih _ a _ (by omega) (by omega) ?_ hok
                 rw [rgI_step _ _ _ _ (by omega), ← ha, if_neg (by omega)])
              | (refine ih _ (_, _) _ (by omega) (by omega) ?_ ?_
                 · rw [rgI_step _ _ _ _ (by omega), ← ha, if_pos (by omega)]
                 · exact ⟨⟨show (-1 : Int) ≤ ((jm (σ 24) i).natAbs : Nat) by omega, show (((jm (σ 24) i).natAbs : Nat) : Int) ≤ 7992 by omega⟩, show 0 ≤ 100 * v + 10 * k + i by omega, show 100 * v + 10 * k + i ≤ 199 by omega⟩)
      · refine V_iconst hE dX5_roughest_77 ?_
        refine V_goto hE 82 dX5_roughest_78 (by decide) ?_
        refine V_istore hE dX5_roughest_82 rfl ?_
        refine V_iload hE dX5_roughest_84 rfl ?_
        refine V_if_eq hE 101 dX5_roughest_86 (by decide) (by omega) (fun h86 => ?_) (fun h86 => ?_)
        · refine V_iload_n hE dX5_roughest_101 rfl ?_
          refine V_istore_n hE dX5_roughest_102 rfl ?_
          refine V_iload hE dX5_roughest_103 rfl ?_
          refine V_if_eq hE 125 dX5_roughest_105 (by decide) (by omega) (fun h105 => ?_) (fun h105 => ?_)
          · refine V_iload_n hE dX5_roughest_125 rfl ?_
            refine V_istore_n hE dX5_roughest_126 rfl ?_
            refine V_iinc hE dX5_roughest_127 rfl rfl ?_
            refine V_goto hE 53 dX5_roughest_130 (by decide) ?_
            first
              | (exfalso; omega)
              | (refine ih _ a _ (by omega) (by omega) ?_ hok
                 rw [rgI_step _ _ _ _ (by omega), ← ha, if_neg (by omega)])
              | (refine ih _ (_, _) _ (by omega) (by omega) ?_ ?_
                 · rw [rgI_step _ _ _ _ (by omega), ← ha, if_pos (by omega)]
                 · exact ⟨⟨show (-1 : Int) ≤ ((jm (σ 24) i).natAbs : Nat) by omega, show (((jm (σ 24) i).natAbs : Nat) : Int) ≤ 7992 by omega⟩, show 0 ≤ 100 * v + 10 * k + i by omega, show 100 * v + 10 * k + i ≤ 199 by omega⟩)
          · refine V_bipush hE dX5_roughest_108 (by decide) ?_
            refine V_iload hE dX5_roughest_110 rfl ?_
            refine V_imul hE dX5_roughest_112 ?_
            refine V_bipush hE dX5_roughest_113 (by decide) ?_
            refine V_iload hE dX5_roughest_115 rfl ?_
            refine V_imul hE dX5_roughest_117 ?_
            refine V_iadd hE dX5_roughest_118 ?_
            refine V_iload hE dX5_roughest_119 rfl ?_
            refine V_iadd hE dX5_roughest_121 ?_
            refine V_goto hE 126 dX5_roughest_122 (by decide) ?_
            refine V_istore_n hE dX5_roughest_126 rfl ?_
            refine V_iinc hE dX5_roughest_127 rfl rfl ?_
            refine V_goto hE 53 dX5_roughest_130 (by decide) ?_
            first
              | (exfalso; omega)
              | (refine ih _ a _ (by omega) (by omega) ?_ hok
                 rw [rgI_step _ _ _ _ (by omega), ← ha, if_neg (by omega)])
              | (refine ih _ (_, _) _ (by omega) (by omega) ?_ ?_
                 · rw [rgI_step _ _ _ _ (by omega), ← ha, if_pos (by omega)]
                 · exact ⟨⟨show (-1 : Int) ≤ ((jm (σ 24) i).natAbs : Nat) by omega, show (((jm (σ 24) i).natAbs : Nat) : Int) ≤ 7992 by omega⟩, show 0 ≤ 100 * v + 10 * k + i by omega, show 100 * v + 10 * k + i ≤ 199 by omega⟩)
        · refine V_aload_n hE dX5_roughest_89 rfl ?_
          refine V_iload hE dX5_roughest_90 rfl ?_
          refine cf_X5_117 hE rfl dX5_roughest_92 (c_X5_jumpAt (by omega)) rfl rfl ?_
          refine cf_X5_120 hE rfl dX5_roughest_95 (c_X5_far (by omega)) rfl rfl ?_
          refine V_goto hE 102 dX5_roughest_98 (by decide) ?_
          refine V_istore_n hE dX5_roughest_102 rfl ?_
          refine V_iload hE dX5_roughest_103 rfl ?_
          refine V_if_eq hE 125 dX5_roughest_105 (by decide) (by omega) (fun h105 => ?_) (fun h105 => ?_)
          · refine V_iload_n hE dX5_roughest_125 rfl ?_
            refine V_istore_n hE dX5_roughest_126 rfl ?_
            refine V_iinc hE dX5_roughest_127 rfl rfl ?_
            refine V_goto hE 53 dX5_roughest_130 (by decide) ?_
            first
              | (exfalso; omega)
              | (refine ih _ a _ (by omega) (by omega) ?_ hok
                 rw [rgI_step _ _ _ _ (by omega), ← ha, if_neg (by omega)])
              | (refine ih _ (_, _) _ (by omega) (by omega) ?_ ?_
                 · rw [rgI_step _ _ _ _ (by omega), ← ha, if_pos (by omega)]
                 · exact ⟨⟨show (-1 : Int) ≤ ((jm (σ 24) i).natAbs : Nat) by omega, show (((jm (σ 24) i).natAbs : Nat) : Int) ≤ 7992 by omega⟩, show 0 ≤ 100 * v + 10 * k + i by omega, show 100 * v + 10 * k + i ≤ 199 by omega⟩)
          · refine V_bipush hE dX5_roughest_108 (by decide) ?_
            refine V_iload hE dX5_roughest_110 rfl ?_
            refine V_imul hE dX5_roughest_112 ?_
            refine V_bipush hE dX5_roughest_113 (by decide) ?_
            refine V_iload hE dX5_roughest_115 rfl ?_
            refine V_imul hE dX5_roughest_117 ?_
            refine V_iadd hE dX5_roughest_118 ?_
            refine V_iload hE dX5_roughest_119 rfl ?_
            refine V_iadd hE dX5_roughest_121 ?_
            refine V_goto hE 126 dX5_roughest_122 (by decide) ?_
            refine V_istore_n hE dX5_roughest_126 rfl ?_
            refine V_iinc hE dX5_roughest_127 rfl rfl ?_
            refine V_goto hE 53 dX5_roughest_130 (by decide) ?_
            first
              | (exfalso; omega)
              | (refine ih _ a _ (by omega) (by omega) ?_ hok
                 rw [rgI_step _ _ _ _ (by omega), ← ha, if_neg (by omega)])
              | (refine ih _ (_, _) _ (by omega) (by omega) ?_ ?_
                 · rw [rgI_step _ _ _ _ (by omega), ← ha, if_pos (by omega)]
                 · exact ⟨⟨show (-1 : Int) ≤ ((jm (σ 24) i).natAbs : Nat) by omega, show (((jm (σ 24) i).natAbs : Nat) : Int) ≤ 7992 by omega⟩, show 0 ≤ 100 * v + 10 * k + i by omega, show 100 * v + 10 * k + i ≤ 199 by omega⟩)
set_option maxRecDepth 100000 in
set_option maxHeartbeats 4000000 in
theorem lp_X5_roughest_31 {K : Ctx} {E : ME} {σ : Sto} (hI : IM σ) {w v : Int} (hv : v = 0 ∨ v = 1) {a0 : Int × Int} (hk : ∀ (σ1 : Sto) (x6 x7 : Option Value), SmM σ σ1 → rgOk (itL (rgStep (σ 20) (σ 110 0) (σ 111 0)) v (if v = 0 then σ 111 0 else σ 110 0).toNat a0) → V K E mX5_roughest 139 [some (.ref (kA K 19)), some (.int (i32 w)), some (.int (i32 (itL (rgStep (σ 20) (σ 110 0) (σ 111 0)) v (if v = 0 then σ 111 0 else σ 110 0).toNat a0).1)), some (.int (i32 (itL (rgStep (σ 20) (σ 110 0) (σ 111 0)) v (if v = 0 then σ 111 0 else σ 110 0).toNat a0).2)), some (.int (i32 v)), some (.int (i32 (if v = 0 then σ 111 0 else σ 110 0))), x6, x7] [] σ1) (hE : Ok K E mX5_roughest 5) : ∀ (n : Nat) (k : Int) (a : Int × Int) (σ1 : Sto) (x6 x7 : Option Value), (if v = 0 then σ 111 0 else σ 110 0) - k < n → (0 ≤ k ∧ k ≤ (if v = 0 then σ 111 0 else σ 110 0)) → (a = (itL (rgStep (σ 20) (σ 110 0) (σ 111 0)) v k.toNat a0)) → (rgOk a) → (SmM σ σ1) → V K E mX5_roughest 31 [some (.ref (kA K 19)), some (.int (i32 w)), some (.int (i32 a.1)), some (.int (i32 a.2)), some (.int (i32 v)), some (.int (i32 k)), x6, x7] [] σ1 := by
  intro n
  induction n with
  | zero =>
    intro k a σ1 x6 x7 hm hk1 ha hok hs
    exfalso; omega
  | succ n ih =>
    intro k a σ1 x6 x7 hm hk1 ha hok hs
    obtain ⟨hS, hW, hB, hRe, hLo, hHi, hO, hPu, hHe, hAt⟩ := id hI
    have e111 := congrFun (hs.1 111 (by decide)) 0
    have e110 := congrFun (hs.1 110 (by decide)) 0
    refine V_iload hE dX5_roughest_31 rfl ?_
    refine V_aload_n hE dX5_roughest_33 rfl ?_
    refine V_iload hE dX5_roughest_34 rfl ?_
    refine cf_X5_93 hE rfl dX5_roughest_36 (c_X5_linesOf (by omega)) rfl rfl ?_
    refine V_icmp_ge hE 139 dX5_roughest_39 (by decide) (by omega) (fun h39 => ?_) (fun h39 => ?_)
    · have ek : k = (if v = 0 then σ 111 0 else σ 110 0) := by omega
      rw [ek] at ha
      rw [ha] at hok
      rw [ha, ek]
      exact hk _ _ _ hs hok
    · refine V_aload_n hE dX5_roughest_42 rfl ?_
      refine V_iload hE dX5_roughest_43 rfl ?_
      refine V_iload hE dX5_roughest_45 rfl ?_
      refine cl_X5_109 hE rfl dX5_roughest_47 (c_X5_lays (IM_sm hI hs) (by omega)) rfl rfl ?_
      rintro σ2 hq
      have e116 := hq.2.1
      have hs2 := SmM_tr hs (LaysQ_sm hq)
      refine V_iconst hE dX5_roughest_50 ?_
      refine V_istore hE dX5_roughest_51 rfl ?_
      refine lp_X5_roughest_53 (IM_sm hI hs2) (by omega) (v := v) (k := k) (by omega) (a0 := a) hok ?_ hE 100 1 a _ (by omega) (by omega) rfl hok
      intro y6 y7 hok2
      have erc : rgI (σ2 24) v k (σ2 116 0 - 3).toNat a = rgStep (σ 20) (σ 110 0) (σ 111 0) v k a := by
        unfold rgStep
        rw [e116, e110, e111]
        refine rgI_congr (n := if v = 0 then σ 110 0 else σ 111 0) _ _ _ (fun i hi => ?_) _ (by omega)
        have h9 := LaysQ_ln hq i (by omega)
        rw [hs.1 20 (by decide)] at h9
        exact h9
      rw [erc] at hok2 ⊢
      refine V_iinc hE dX5_roughest_133 rfl rfl ?_
      refine V_goto hE 31 dX5_roughest_136 (by decide) ?_
      exact ih _ _ _ _ _ (by omega) (by omega) (by rw [itL_step _ _ _ (by omega), ← ha]) hok2 hs2
set_option maxRecDepth 100000 in
set_option maxHeartbeats 4000000 in
theorem c_X5_roughest {K : Ctx} {σ : Sto} {w : Int} (hI : IM σ) (hw : InI w) : CtI K mX5_roughest 5 [.ref (kA K 19), .int (i32 w)] σ (fun r σ' => r = rgS (σ 20) (σ 110 0) (σ 111 0) w ∧ SmM σ σ') := by
  obtain ⟨hS, hW, hB, hRe, hLo, hHi, hO, hPu, hHe, hAt⟩ := id hI
  refine CtI_of (L := [some (.ref (kA K 19)), some (.int (i32 w)), none, none, none, none, none, none]) (by decide) rfl rfl rfl ?_
  intro E hE hR
  refine V_iload_n hE dX5_roughest_0 rfl ?_
  refine V_i2l hE dX5_roughest_1 (by omega) ?_
  refine V_lconst0 hE dX5_roughest_2 ?_
  refine V_ldc2 hE tw_cl_X5_89 dX5_roughest_3 ?_
  refine cf_X5_67 hE rfl dX5_roughest_6 (c_X5_within (by omega)) rfl rfl ?_
  refine V_if_ne hE 15 dX5_roughest_9 (by decide) (by omega) (fun h9 => ?_) (fun h9 => ?_)
  · refine V_iconst hE dX5_roughest_15 ?_
    refine V_istore_n hE dX5_roughest_16 rfl ?_
    refine V_iconst hE dX5_roughest_17 ?_
    refine V_istore_n hE dX5_roughest_18 rfl ?_
    refine V_iconst hE dX5_roughest_19 ?_
    refine V_istore hE dX5_roughest_20 rfl ?_
    refine V_iload hE dX5_roughest_22 rfl ?_
    refine V_iconst hE dX5_roughest_24 ?_
    refine V_icmp_ge hE 145 dX5_roughest_25 (by decide) (by omega) (fun h25 => ?_) (fun h25 => ?_)
    · exfalso; omega
    · refine V_iconst hE dX5_roughest_28 ?_
      refine V_istore hE dX5_roughest_29 rfl ?_
      refine lp_X5_roughest_31 hI (w := w) (v := 0) (a0 := (-1, 0)) (Or.inl rfl) ?_ hE 100 0 (-1, 0) σ _ _ (by omega) (by omega) rfl ⟨⟨by decide, by decide⟩, by decide, by decide⟩ (SmM_rf hAt)
      intro σ1 x6 x7 hs1 hok1
      refine V_iinc hE dX5_roughest_139 rfl rfl ?_
      refine V_goto hE 22 dX5_roughest_142 (by decide) ?_
      refine V_iload hE dX5_roughest_22 rfl ?_
      refine V_iconst hE dX5_roughest_24 ?_
      refine V_icmp_ge hE 145 dX5_roughest_25 (by decide) (by omega) (fun h25 => ?_) (fun h25 => ?_)
      · exfalso; omega
      · refine V_iconst hE dX5_roughest_28 ?_
        refine V_istore hE dX5_roughest_29 rfl ?_
        refine lp_X5_roughest_31 hI (w := w) (v := 1) (a0 := itL (rgStep (σ 20) (σ 110 0) (σ 111 0)) 0 (σ 111 0).toNat (-1, 0)) (Or.inr rfl) ?_ hE 100 0 _ σ1 _ _ (by omega) (by omega) rfl hok1 hs1
        intro σ2 y6 y7 hs2 hok2
        refine V_iinc hE dX5_roughest_139 rfl rfl ?_
        refine V_goto hE 22 dX5_roughest_142 (by decide) ?_
        refine V_iload hE dX5_roughest_22 rfl ?_
        refine V_iconst hE dX5_roughest_24 ?_
        refine V_icmp_ge hE 145 dX5_roughest_25 (by decide) (by omega) (fun h25 => ?_) (fun h25 => ?_)
        · refine V_iload_n hE dX5_roughest_145 rfl ?_
          refine V_if_ne hE 153 dX5_roughest_146 (by decide) (by omega) (fun h146 => ?_) (fun h146 => ?_)
          · refine V_iload_n hE dX5_roughest_153 rfl ?_
            refine V_iconst hE dX5_roughest_154 ?_
            refine V_icmp_ne hE 165 dX5_roughest_155 (by decide) (by omega) (fun h155 => ?_) (fun h155 => ?_)
            · refine V_iload_n hE dX5_roughest_165 rfl ?_
              refine V_iconst hE dX5_roughest_166 ?_
              refine V_icmp_ne hE 180 dX5_roughest_167 (by decide) (by omega) (fun h167 => ?_) (fun h167 => ?_)
              · refine V_iload_n hE dX5_roughest_180 rfl ?_
                refine V_bipush hE dX5_roughest_181 (by decide) ?_
                refine V_irem hE dX5_roughest_183 (by omega) (by omega) ?_
                refine V_ireturn hR dX5_roughest_184 ?_
                refine ⟨?_, hs2⟩
                have ea : itL (rgStep (σ 20) (σ 110 0) (σ 111 0)) 1 (σ 110 0).toNat (itL (rgStep (σ 20) (σ 110 0) (σ 111 0)) 0 (σ 111 0).toNat (-1, 0)) = rgA (σ 20) (σ 110 0) (σ 111 0) := rfl
                have e1 : (if (1 : Int) = 0 then σ 111 0 else σ 110 0) = σ 110 0 := rfl
                rw [e1, ea]
                unfold rgS
                first
                  | (rw [if_neg (by omega), if_pos (by omega)])
                  | (rw [if_neg (by omega), if_neg (by omega), if_pos (by omega)])
                  | (rw [if_neg (by omega), if_neg (by omega), if_neg (by omega), if_pos (by omega)])
                  | (rw [if_neg (by omega), if_neg (by omega), if_neg (by omega), if_neg (by omega)])
              · refine V_iload_n hE dX5_roughest_170 rfl ?_
                refine V_bipush hE dX5_roughest_171 (by decide) ?_
                refine V_idiv hE dX5_roughest_173 (by omega) (by omega) ?_
                refine V_bipush hE dX5_roughest_174 (by decide) ?_
                refine V_irem hE dX5_roughest_176 (by omega) (by omega) ?_
                refine V_goto hE 184 dX5_roughest_177 (by decide) ?_
                refine V_ireturn hR dX5_roughest_184 ?_
                refine ⟨?_, hs2⟩
                have ea : itL (rgStep (σ 20) (σ 110 0) (σ 111 0)) 1 (σ 110 0).toNat (itL (rgStep (σ 20) (σ 110 0) (σ 111 0)) 0 (σ 111 0).toNat (-1, 0)) = rgA (σ 20) (σ 110 0) (σ 111 0) := rfl
                have e1 : (if (1 : Int) = 0 then σ 111 0 else σ 110 0) = σ 110 0 := rfl
                rw [e1, ea]
                unfold rgS
                first
                  | (rw [if_neg (by omega), if_pos (by omega)])
                  | (rw [if_neg (by omega), if_neg (by omega), if_pos (by omega)])
                  | (rw [if_neg (by omega), if_neg (by omega), if_neg (by omega), if_pos (by omega)])
                  | (rw [if_neg (by omega), if_neg (by omega), if_neg (by omega), if_neg (by omega)])
            · refine V_iload_n hE dX5_roughest_158 rfl ?_
              refine V_bipush hE dX5_roughest_159 (by decide) ?_
              refine V_idiv hE dX5_roughest_161 (by omega) (by omega) ?_
              refine V_goto hE 184 dX5_roughest_162 (by decide) ?_
              refine V_ireturn hR dX5_roughest_184 ?_
              refine ⟨?_, hs2⟩
              have ea : itL (rgStep (σ 20) (σ 110 0) (σ 111 0)) 1 (σ 110 0).toNat (itL (rgStep (σ 20) (σ 110 0) (σ 111 0)) 0 (σ 111 0).toNat (-1, 0)) = rgA (σ 20) (σ 110 0) (σ 111 0) := rfl
              have e1 : (if (1 : Int) = 0 then σ 111 0 else σ 110 0) = σ 110 0 := rfl
              rw [e1, ea]
              unfold rgS
              first
                | (rw [if_neg (by omega), if_pos (by omega)])
                | (rw [if_neg (by omega), if_neg (by omega), if_pos (by omega)])
                | (rw [if_neg (by omega), if_neg (by omega), if_neg (by omega), if_pos (by omega)])
                | (rw [if_neg (by omega), if_neg (by omega), if_neg (by omega), if_neg (by omega)])
          · refine V_iload_n hE dX5_roughest_149 rfl ?_
            refine V_goto hE 184 dX5_roughest_150 (by decide) ?_
            refine V_ireturn hR dX5_roughest_184 ?_
            refine ⟨?_, hs2⟩
            have ea : itL (rgStep (σ 20) (σ 110 0) (σ 111 0)) 1 (σ 110 0).toNat (itL (rgStep (σ 20) (σ 110 0) (σ 111 0)) 0 (σ 111 0).toNat (-1, 0)) = rgA (σ 20) (σ 110 0) (σ 111 0) := rfl
            have e1 : (if (1 : Int) = 0 then σ 111 0 else σ 110 0) = σ 110 0 := rfl
            rw [e1, ea]
            unfold rgS
            first
              | (rw [if_neg (by omega), if_pos (by omega)])
              | (rw [if_neg (by omega), if_neg (by omega), if_pos (by omega)])
              | (rw [if_neg (by omega), if_neg (by omega), if_neg (by omega), if_pos (by omega)])
              | (rw [if_neg (by omega), if_neg (by omega), if_neg (by omega), if_neg (by omega)])
        · exfalso; omega
  · refine V_bipush hE dX5_roughest_12 (by decide) ?_
    refine V_ireturn hR dX5_roughest_14 ?_
    exact ⟨by unfold rgS; rw [if_pos (by omega)], SmM_rf hAt⟩
end
section
theorem zz_1 (a v b : Int) (h : (if a ≤ v ∧ v ≤ b then (1:Int) else 0) = 0) : ¬ (a ≤ v ∧ v ≤ b) := by omega
theorem zz_2 (a b : Int) (h : max a b < 5) : a < 5 := by omega
theorem zz_3 (a : Int) (h : ((a.natAbs : Nat) : Int) < 5) : a < 5 ∧ -5 < a := by omega
theorem zz_4 (a b : Int) (σ : Sto) (h : 0 ≤ a ∧ a < 9) (hb : InI b) : InI (if a < b then a else 3) := by omega
theorem zz_5 (n : Int) (h : 0 ≤ n ∧ n < 343) : n / 49 - 3 ≤ 3 ∧ n / 7 % 7 ≤ 6 := by omega
end
