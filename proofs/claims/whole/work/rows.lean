section
-- ===== PART A: goes FIRST, ahead of the names: the tables' words, and 'selects' of the private methods out of them =====
/-- a private method of a class that the tables say can be made, by its rows of tables_1 -/
def lw_okq (q : MethodName × Nat) : Prop := (q.1.cls ≠ "java/lang/invoke/MethodHandle" ∧ q.1.cls ≠ "java/lang/invoke/VarHandle") ∧ Cond.instantiable q.1.cls q.2 ∈ tables_1 ∧ Cond.privateMethod q.1 ∈ tables_1 ∧ Cond.instanceMethod q.1 ∈ tables_1
theorem lw_p0 : lw_okq (⟨"HullOffsets$Grid", "renew", "(II)V"⟩, 5) := ⟨⟨by decide +kernel, by decide +kernel⟩, List.mem_of_getElem? (i := 18) (by decide +kernel), List.mem_of_getElem? (i := 120) (by decide +kernel), List.mem_of_getElem? (i := 121) (by decide +kernel)⟩
theorem lw_p1 : lw_okq (⟨"HullOffsets$Grid", "hasPoint", "(II)Z"⟩, 5) := ⟨⟨by decide +kernel, by decide +kernel⟩, List.mem_of_getElem? (i := 18) (by decide +kernel), List.mem_of_getElem? (i := 157) (by decide +kernel), List.mem_of_getElem? (i := 158) (by decide +kernel)⟩
theorem lw_p2 : lw_okq (⟨"HullOffsets$Grid", "put", "(II)I"⟩, 5) := ⟨⟨by decide +kernel, by decide +kernel⟩, List.mem_of_getElem? (i := 18) (by decide +kernel), List.mem_of_getElem? (i := 164) (by decide +kernel), List.mem_of_getElem? (i := 165) (by decide +kernel)⟩
theorem lw_p3 : lw_okq (⟨"HullOffsets$Grid", "movedBy", "(I)I"⟩, 5) := ⟨⟨by decide +kernel, by decide +kernel⟩, List.mem_of_getElem? (i := 18) (by decide +kernel), List.mem_of_getElem? (i := 184) (by decide +kernel), List.mem_of_getElem? (i := 185) (by decide +kernel)⟩
theorem lw_p4 : lw_okq (⟨"HullOffsets", "refusalOfLine", "(II)I"⟩, 7) := ⟨⟨by decide +kernel, by decide +kernel⟩, List.mem_of_getElem? (i := 10) (by decide +kernel), List.mem_of_getElem? (i := 192) (by decide +kernel), List.mem_of_getElem? (i := 193) (by decide +kernel)⟩
theorem lw_p5 : lw_okq (⟨"HullOffsets$Grid", "linesOf", "(I)I"⟩, 5) := ⟨⟨by decide +kernel, by decide +kernel⟩, List.mem_of_getElem? (i := 18) (by decide +kernel), List.mem_of_getElem? (i := 196) (by decide +kernel), List.mem_of_getElem? (i := 197) (by decide +kernel)⟩
theorem lw_p6 : lw_okq (⟨"HullOffsets", "takeLine", "(II)V"⟩, 7) := ⟨⟨by decide +kernel, by decide +kernel⟩, List.mem_of_getElem? (i := 10) (by decide +kernel), List.mem_of_getElem? (i := 200) (by decide +kernel), List.mem_of_getElem? (i := 201) (by decide +kernel)⟩
theorem lw_p7 : lw_okq (⟨"HullOffsets$Grid", "layOut", "(IILHullOffsets$Line;)V"⟩, 5) := ⟨⟨by decide +kernel, by decide +kernel⟩, List.mem_of_getElem? (i := 18) (by decide +kernel), List.mem_of_getElem? (i := 204) (by decide +kernel), List.mem_of_getElem? (i := 205) (by decide +kernel)⟩
theorem lw_p8 : lw_okq (⟨"HullOffsets$Grid", "pointsOf", "(I)I"⟩, 5) := ⟨⟨by decide +kernel, by decide +kernel⟩, List.mem_of_getElem? (i := 18) (by decide +kernel), List.mem_of_getElem? (i := 208) (by decide +kernel), List.mem_of_getElem? (i := 209) (by decide +kernel)⟩
theorem lw_p9 : lw_okq (⟨"HullOffsets$Grid", "cell", "(III)I"⟩, 5) := ⟨⟨by decide +kernel, by decide +kernel⟩, List.mem_of_getElem? (i := 18) (by decide +kernel), List.mem_of_getElem? (i := 212) (by decide +kernel), List.mem_of_getElem? (i := 213) (by decide +kernel)⟩
theorem lw_p10 : lw_okq (⟨"HullOffsets$Line", "bendAt", "(I)I"⟩, 2) := ⟨⟨by decide +kernel, by decide +kernel⟩, List.mem_of_getElem? (i := 50) (by decide +kernel), List.mem_of_getElem? (i := 217) (by decide +kernel), List.mem_of_getElem? (i := 218) (by decide +kernel)⟩
theorem lw_p11 : lw_okq (⟨"HullOffsets$Line", "jumpAt", "(I)I"⟩, 2) := ⟨⟨by decide +kernel, by decide +kernel⟩, List.mem_of_getElem? (i := 50) (by decide +kernel), List.mem_of_getElem? (i := 225) (by decide +kernel), List.mem_of_getElem? (i := 226) (by decide +kernel)⟩
theorem lw_p12 : lw_okq (⟨"HullOffsets$Line", "farthestJump", "()I"⟩, 2) := ⟨⟨by decide +kernel, by decide +kernel⟩, List.mem_of_getElem? (i := 50) (by decide +kernel), List.mem_of_getElem? (i := 234) (by decide +kernel), List.mem_of_getElem? (i := 235) (by decide +kernel)⟩
theorem lw_p13 : lw_okq (⟨"HullOffsets$Line", "firstJumpThatFar", "(I)I"⟩, 2) := ⟨⟨by decide +kernel, by decide +kernel⟩, List.mem_of_getElem? (i := 50) (by decide +kernel), List.mem_of_getElem? (i := 245) (by decide +kernel), List.mem_of_getElem? (i := 246) (by decide +kernel)⟩
theorem lw_p14 : lw_okq (⟨"HullOffsets$Line", "countJumpsBeyond", "(I)I"⟩, 2) := ⟨⟨by decide +kernel, by decide +kernel⟩, List.mem_of_getElem? (i := 50) (by decide +kernel), List.mem_of_getElem? (i := 253) (by decide +kernel), List.mem_of_getElem? (i := 254) (by decide +kernel)⟩
theorem lw_p15 : lw_okq (⟨"HullOffsets", "seekLeast", "(II)I"⟩, 7) := ⟨⟨by decide +kernel, by decide +kernel⟩, List.mem_of_getElem? (i := 10) (by decide +kernel), List.mem_of_getElem? (i := 262) (by decide +kernel), List.mem_of_getElem? (i := 263) (by decide +kernel)⟩
def lw_privs_1 : List (MethodName × Nat) := [(⟨"HullOffsets$Grid", "renew", "(II)V"⟩, 5), (⟨"HullOffsets$Grid", "hasPoint", "(II)Z"⟩, 5), (⟨"HullOffsets$Grid", "put", "(II)I"⟩, 5), (⟨"HullOffsets$Grid", "movedBy", "(I)I"⟩, 5), (⟨"HullOffsets", "refusalOfLine", "(II)I"⟩, 7), (⟨"HullOffsets$Grid", "linesOf", "(I)I"⟩, 5), (⟨"HullOffsets", "takeLine", "(II)V"⟩, 7), (⟨"HullOffsets$Grid", "layOut", "(IILHullOffsets$Line;)V"⟩, 5), (⟨"HullOffsets$Grid", "pointsOf", "(I)I"⟩, 5), (⟨"HullOffsets$Grid", "cell", "(III)I"⟩, 5), (⟨"HullOffsets$Line", "bendAt", "(I)I"⟩, 2), (⟨"HullOffsets$Line", "jumpAt", "(I)I"⟩, 2), (⟨"HullOffsets$Line", "farthestJump", "()I"⟩, 2), (⟨"HullOffsets$Line", "firstJumpThatFar", "(I)I"⟩, 2), (⟨"HullOffsets$Line", "countJumpsBeyond", "(I)I"⟩, 2), (⟨"HullOffsets", "seekLeast", "(II)I"⟩, 7)]
theorem lw_r1 : ∀ q ∈ lw_privs_1, lw_okq q := List.forall_mem_cons.mpr ⟨lw_p0, List.forall_mem_cons.mpr ⟨lw_p1, List.forall_mem_cons.mpr ⟨lw_p2, List.forall_mem_cons.mpr ⟨lw_p3, List.forall_mem_cons.mpr ⟨lw_p4, List.forall_mem_cons.mpr ⟨lw_p5, List.forall_mem_cons.mpr ⟨lw_p6, List.forall_mem_cons.mpr ⟨lw_p7, List.forall_mem_cons.mpr ⟨lw_p8, List.forall_mem_cons.mpr ⟨lw_p9, List.forall_mem_cons.mpr ⟨lw_p10, List.forall_mem_cons.mpr ⟨lw_p11, List.forall_mem_cons.mpr ⟨lw_p12, List.forall_mem_cons.mpr ⟨lw_p13, List.forall_mem_cons.mpr ⟨lw_p14, List.forall_mem_cons.mpr ⟨lw_p15, fun _ h => absurd h List.not_mem_nil⟩⟩⟩⟩⟩⟩⟩⟩⟩⟩⟩⟩⟩⟩⟩⟩
theorem lw_p16 : lw_okq (⟨"HullOffsets$LeastMoves", "stay", "()V"⟩, 7) := ⟨⟨by decide +kernel, by decide +kernel⟩, List.mem_of_getElem? (i := 67) (by decide +kernel), List.mem_of_getElem? (i := 266) (by decide +kernel), List.mem_of_getElem? (i := 267) (by decide +kernel)⟩
theorem lw_p17 : lw_okq (⟨"HullOffsets$LeastMoves", "place", "(III)V"⟩, 7) := ⟨⟨by decide +kernel, by decide +kernel⟩, List.mem_of_getElem? (i := 67) (by decide +kernel), List.mem_of_getElem? (i := 271) (by decide +kernel), List.mem_of_getElem? (i := 272) (by decide +kernel)⟩
theorem lw_p18 : lw_okq (⟨"HullOffsets$LeastMoves", "seek", "(II)I"⟩, 7) := ⟨⟨by decide +kernel, by decide +kernel⟩, List.mem_of_getElem? (i := 67) (by decide +kernel), List.mem_of_getElem? (i := 279) (by decide +kernel), List.mem_of_getElem? (i := 280) (by decide +kernel)⟩
theorem lw_p19 : lw_okq (⟨"HullOffsets$LeastMoves", "keepFewest", "(I)V"⟩, 7) := ⟨⟨by decide +kernel, by decide +kernel⟩, List.mem_of_getElem? (i := 67) (by decide +kernel), List.mem_of_getElem? (i := 283) (by decide +kernel), List.mem_of_getElem? (i := 284) (by decide +kernel)⟩
theorem lw_p20 : lw_okq (⟨"HullOffsets$LeastMoves", "slot", "(IIII)I"⟩, 7) := ⟨⟨by decide +kernel, by decide +kernel⟩, List.mem_of_getElem? (i := 67) (by decide +kernel), List.mem_of_getElem? (i := 287) (by decide +kernel), List.mem_of_getElem? (i := 288) (by decide +kernel)⟩
theorem lw_p21 : lw_okq (⟨"HullOffsets$LeastMoves", "fewestFrom", "(IIII)I"⟩, 7) := ⟨⟨by decide +kernel, by decide +kernel⟩, List.mem_of_getElem? (i := 67) (by decide +kernel), List.mem_of_getElem? (i := 291) (by decide +kernel), List.mem_of_getElem? (i := 292) (by decide +kernel)⟩
theorem lw_p22 : lw_okq (⟨"HullOffsets$LeastMoves", "jumpUnmoved", "(IIII)I"⟩, 7) := ⟨⟨by decide +kernel, by decide +kernel⟩, List.mem_of_getElem? (i := 67) (by decide +kernel), List.mem_of_getElem? (i := 295) (by decide +kernel), List.mem_of_getElem? (i := 296) (by decide +kernel)⟩
theorem lw_p23 : lw_okq (⟨"HullOffsets$LeastMoves", "lastFit", "(II)I"⟩, 7) := ⟨⟨by decide +kernel, by decide +kernel⟩, List.mem_of_getElem? (i := 67) (by decide +kernel), List.mem_of_getElem? (i := 299) (by decide +kernel), List.mem_of_getElem? (i := 300) (by decide +kernel)⟩
theorem lw_p24 : lw_okq (⟨"HullOffsets$LeastMoves", "firstFit", "(II)I"⟩, 7) := ⟨⟨by decide +kernel, by decide +kernel⟩, List.mem_of_getElem? (i := 67) (by decide +kernel), List.mem_of_getElem? (i := 303) (by decide +kernel), List.mem_of_getElem? (i := 304) (by decide +kernel)⟩
theorem lw_p25 : lw_okq (⟨"HullOffsets$LeastMoves", "firstLeading", "(IIII)I"⟩, 7) := ⟨⟨by decide +kernel, by decide +kernel⟩, List.mem_of_getElem? (i := 67) (by decide +kernel), List.mem_of_getElem? (i := 308) (by decide +kernel), List.mem_of_getElem? (i := 309) (by decide +kernel)⟩
theorem lw_p26 : lw_okq (⟨"HullOffsets$LeastMoves", "moveOf", "(I)I"⟩, 7) := ⟨⟨by decide +kernel, by decide +kernel⟩, List.mem_of_getElem? (i := 67) (by decide +kernel), List.mem_of_getElem? (i := 312) (by decide +kernel), List.mem_of_getElem? (i := 313) (by decide +kernel)⟩
theorem lw_p27 : lw_okq (⟨"HullOffsets", "addMoves", "(II)V"⟩, 7) := ⟨⟨by decide +kernel, by decide +kernel⟩, List.mem_of_getElem? (i := 10) (by decide +kernel), List.mem_of_getElem? (i := 320) (by decide +kernel), List.mem_of_getElem? (i := 321) (by decide +kernel)⟩
theorem lw_p28 : lw_okq (⟨"HullOffsets", "roundChanges", "()Z"⟩, 7) := ⟨⟨by decide +kernel, by decide +kernel⟩, List.mem_of_getElem? (i := 10) (by decide +kernel), List.mem_of_getElem? (i := 328) (by decide +kernel), List.mem_of_getElem? (i := 329) (by decide +kernel)⟩
theorem lw_p29 : lw_okq (⟨"HullOffsets", "areaInSixths", "(II)I"⟩, 7) := ⟨⟨by decide +kernel, by decide +kernel⟩, List.mem_of_getElem? (i := 10) (by decide +kernel), List.mem_of_getElem? (i := 344) (by decide +kernel), List.mem_of_getElem? (i := 345) (by decide +kernel)⟩
theorem lw_p30 : lw_okq (⟨"HullOffsets$Heights", "measure", "(LHullOffsets$Grid;II)V"⟩, 2) := ⟨⟨by decide +kernel, by decide +kernel⟩, List.mem_of_getElem? (i := 95) (by decide +kernel), List.mem_of_getElem? (i := 371) (by decide +kernel), List.mem_of_getElem? (i := 372) (by decide +kernel)⟩
theorem lw_p31 : lw_okq (⟨"HullOffsets$Heights", "isThere", "(I)Z"⟩, 2) := ⟨⟨by decide +kernel, by decide +kernel⟩, List.mem_of_getElem? (i := 95) (by decide +kernel), List.mem_of_getElem? (i := 376) (by decide +kernel), List.mem_of_getElem? (i := 377) (by decide +kernel)⟩
def lw_privs_2 : List (MethodName × Nat) := [(⟨"HullOffsets$LeastMoves", "stay", "()V"⟩, 7), (⟨"HullOffsets$LeastMoves", "place", "(III)V"⟩, 7), (⟨"HullOffsets$LeastMoves", "seek", "(II)I"⟩, 7), (⟨"HullOffsets$LeastMoves", "keepFewest", "(I)V"⟩, 7), (⟨"HullOffsets$LeastMoves", "slot", "(IIII)I"⟩, 7), (⟨"HullOffsets$LeastMoves", "fewestFrom", "(IIII)I"⟩, 7), (⟨"HullOffsets$LeastMoves", "jumpUnmoved", "(IIII)I"⟩, 7), (⟨"HullOffsets$LeastMoves", "lastFit", "(II)I"⟩, 7), (⟨"HullOffsets$LeastMoves", "firstFit", "(II)I"⟩, 7), (⟨"HullOffsets$LeastMoves", "firstLeading", "(IIII)I"⟩, 7), (⟨"HullOffsets$LeastMoves", "moveOf", "(I)I"⟩, 7), (⟨"HullOffsets", "addMoves", "(II)V"⟩, 7), (⟨"HullOffsets", "roundChanges", "()Z"⟩, 7), (⟨"HullOffsets", "areaInSixths", "(II)I"⟩, 7), (⟨"HullOffsets$Heights", "measure", "(LHullOffsets$Grid;II)V"⟩, 2), (⟨"HullOffsets$Heights", "isThere", "(I)Z"⟩, 2)]
theorem lw_r2 : ∀ q ∈ lw_privs_2, lw_okq q := List.forall_mem_cons.mpr ⟨lw_p16, List.forall_mem_cons.mpr ⟨lw_p17, List.forall_mem_cons.mpr ⟨lw_p18, List.forall_mem_cons.mpr ⟨lw_p19, List.forall_mem_cons.mpr ⟨lw_p20, List.forall_mem_cons.mpr ⟨lw_p21, List.forall_mem_cons.mpr ⟨lw_p22, List.forall_mem_cons.mpr ⟨lw_p23, List.forall_mem_cons.mpr ⟨lw_p24, List.forall_mem_cons.mpr ⟨lw_p25, List.forall_mem_cons.mpr ⟨lw_p26, List.forall_mem_cons.mpr ⟨lw_p27, List.forall_mem_cons.mpr ⟨lw_p28, List.forall_mem_cons.mpr ⟨lw_p29, List.forall_mem_cons.mpr ⟨lw_p30, List.forall_mem_cons.mpr ⟨lw_p31, fun _ h => absurd h List.not_mem_nil⟩⟩⟩⟩⟩⟩⟩⟩⟩⟩⟩⟩⟩⟩⟩⟩
theorem lw_p32 : lw_okq (⟨"HullOffsets$Heights", "countBreaks", "(LHullOffsets$Grid;II)I"⟩, 2) := ⟨⟨by decide +kernel, by decide +kernel⟩, List.mem_of_getElem? (i := 95) (by decide +kernel), List.mem_of_getElem? (i := 384) (by decide +kernel), List.mem_of_getElem? (i := 385) (by decide +kernel)⟩
theorem lw_p33 : lw_okq (⟨"HullOffsets$Heights", "isBreak", "(II)Z"⟩, 2) := ⟨⟨by decide +kernel, by decide +kernel⟩, List.mem_of_getElem? (i := 95) (by decide +kernel), List.mem_of_getElem? (i := 389) (by decide +kernel), List.mem_of_getElem? (i := 390) (by decide +kernel)⟩
theorem lw_p34 : lw_okq (⟨"HullOffsets$Grid", "broadest", "()I"⟩, 5) := ⟨⟨by decide +kernel, by decide +kernel⟩, List.mem_of_getElem? (i := 18) (by decide +kernel), List.mem_of_getElem? (i := 403) (by decide +kernel), List.mem_of_getElem? (i := 404) (by decide +kernel)⟩
theorem lw_p35 : lw_okq (⟨"HullOffsets$Grid", "countHeld", "()I"⟩, 5) := ⟨⟨by decide +kernel, by decide +kernel⟩, List.mem_of_getElem? (i := 18) (by decide +kernel), List.mem_of_getElem? (i := 412) (by decide +kernel), List.mem_of_getElem? (i := 413) (by decide +kernel)⟩
theorem lw_p36 : lw_okq (⟨"HullOffsets", "countUnfair", "()I"⟩, 7) := ⟨⟨by decide +kernel, by decide +kernel⟩, List.mem_of_getElem? (i := 10) (by decide +kernel), List.mem_of_getElem? (i := 416) (by decide +kernel), List.mem_of_getElem? (i := 417) (by decide +kernel)⟩
theorem lw_p37 : lw_okq (⟨"HullOffsets$Grid", "farFromPuts", "()I"⟩, 5) := ⟨⟨by decide +kernel, by decide +kernel⟩, List.mem_of_getElem? (i := 18) (by decide +kernel), List.mem_of_getElem? (i := 420) (by decide +kernel), List.mem_of_getElem? (i := 421) (by decide +kernel)⟩
theorem lw_p38 : lw_okq (⟨"HullOffsetsModel", "isPoint", "(II)Z"⟩, 22) := ⟨⟨by decide +kernel, by decide +kernel⟩, List.mem_of_getElem? (i := 426) (by decide +kernel), List.mem_of_getElem? (i := 514) (by decide +kernel), List.mem_of_getElem? (i := 515) (by decide +kernel)⟩
theorem lw_p39 : lw_okq (⟨"HullOffsetsModel", "barred", "(IIII)I"⟩, 22) := ⟨⟨by decide +kernel, by decide +kernel⟩, List.mem_of_getElem? (i := 426) (by decide +kernel), List.mem_of_getElem? (i := 540) (by decide +kernel), List.mem_of_getElem? (i := 541) (by decide +kernel)⟩
theorem lw_p40 : lw_okq (⟨"HullOffsetsModel", "isLine", "(II)Z"⟩, 22) := ⟨⟨by decide +kernel, by decide +kernel⟩, List.mem_of_getElem? (i := 426) (by decide +kernel), List.mem_of_getElem? (i := 547) (by decide +kernel), List.mem_of_getElem? (i := 548) (by decide +kernel)⟩
theorem lw_p41 : lw_okq (⟨"HullOffsetsModel", "linesOf", "(I)I"⟩, 22) := ⟨⟨by decide +kernel, by decide +kernel⟩, List.mem_of_getElem? (i := 426) (by decide +kernel), List.mem_of_getElem? (i := 551) (by decide +kernel), List.mem_of_getElem? (i := 552) (by decide +kernel)⟩
theorem lw_p42 : lw_okq (⟨"HullOffsetsModel", "lays", "(II)V"⟩, 22) := ⟨⟨by decide +kernel, by decide +kernel⟩, List.mem_of_getElem? (i := 426) (by decide +kernel), List.mem_of_getElem? (i := 555) (by decide +kernel), List.mem_of_getElem? (i := 556) (by decide +kernel)⟩
theorem lw_p43 : lw_okq (⟨"HullOffsetsModel", "bendAt", "(I)I"⟩, 22) := ⟨⟨by decide +kernel, by decide +kernel⟩, List.mem_of_getElem? (i := 426) (by decide +kernel), List.mem_of_getElem? (i := 559) (by decide +kernel), List.mem_of_getElem? (i := 560) (by decide +kernel)⟩
theorem lw_p44 : lw_okq (⟨"HullOffsetsModel", "jumpAt", "(I)I"⟩, 22) := ⟨⟨by decide +kernel, by decide +kernel⟩, List.mem_of_getElem? (i := 426) (by decide +kernel), List.mem_of_getElem? (i := 567) (by decide +kernel), List.mem_of_getElem? (i := 568) (by decide +kernel)⟩
theorem lw_p45 : lw_okq (⟨"HullOffsetsModel", "roughNow", "()I"⟩, 22) := ⟨⟨by decide +kernel, by decide +kernel⟩, List.mem_of_getElem? (i := 426) (by decide +kernel), List.mem_of_getElem? (i := 582) (by decide +kernel), List.mem_of_getElem? (i := 583) (by decide +kernel)⟩
theorem lw_p46 : lw_okq (⟨"HullOffsetsModel", "findLeast", "()Z"⟩, 22) := ⟨⟨by decide +kernel, by decide +kernel⟩, List.mem_of_getElem? (i := 426) (by decide +kernel), List.mem_of_getElem? (i := 591) (by decide +kernel), List.mem_of_getElem? (i := 592) (by decide +kernel)⟩
theorem lw_p47 : lw_okq (⟨"HullOffsetsModel", "findNeeds", "()V"⟩, 22) := ⟨⟨by decide +kernel, by decide +kernel⟩, List.mem_of_getElem? (i := 426) (by decide +kernel), List.mem_of_getElem? (i := 595) (by decide +kernel), List.mem_of_getElem? (i := 596) (by decide +kernel)⟩
def lw_privs_3 : List (MethodName × Nat) := [(⟨"HullOffsets$Heights", "countBreaks", "(LHullOffsets$Grid;II)I"⟩, 2), (⟨"HullOffsets$Heights", "isBreak", "(II)Z"⟩, 2), (⟨"HullOffsets$Grid", "broadest", "()I"⟩, 5), (⟨"HullOffsets$Grid", "countHeld", "()I"⟩, 5), (⟨"HullOffsets", "countUnfair", "()I"⟩, 7), (⟨"HullOffsets$Grid", "farFromPuts", "()I"⟩, 5), (⟨"HullOffsetsModel", "isPoint", "(II)Z"⟩, 22), (⟨"HullOffsetsModel", "barred", "(IIII)I"⟩, 22), (⟨"HullOffsetsModel", "isLine", "(II)Z"⟩, 22), (⟨"HullOffsetsModel", "linesOf", "(I)I"⟩, 22), (⟨"HullOffsetsModel", "lays", "(II)V"⟩, 22), (⟨"HullOffsetsModel", "bendAt", "(I)I"⟩, 22), (⟨"HullOffsetsModel", "jumpAt", "(I)I"⟩, 22), (⟨"HullOffsetsModel", "roughNow", "()I"⟩, 22), (⟨"HullOffsetsModel", "findLeast", "()Z"⟩, 22), (⟨"HullOffsetsModel", "findNeeds", "()V"⟩, 22)]
theorem lw_r3 : ∀ q ∈ lw_privs_3, lw_okq q := List.forall_mem_cons.mpr ⟨lw_p32, List.forall_mem_cons.mpr ⟨lw_p33, List.forall_mem_cons.mpr ⟨lw_p34, List.forall_mem_cons.mpr ⟨lw_p35, List.forall_mem_cons.mpr ⟨lw_p36, List.forall_mem_cons.mpr ⟨lw_p37, List.forall_mem_cons.mpr ⟨lw_p38, List.forall_mem_cons.mpr ⟨lw_p39, List.forall_mem_cons.mpr ⟨lw_p40, List.forall_mem_cons.mpr ⟨lw_p41, List.forall_mem_cons.mpr ⟨lw_p42, List.forall_mem_cons.mpr ⟨lw_p43, List.forall_mem_cons.mpr ⟨lw_p44, List.forall_mem_cons.mpr ⟨lw_p45, List.forall_mem_cons.mpr ⟨lw_p46, List.forall_mem_cons.mpr ⟨lw_p47, fun _ h => absurd h List.not_mem_nil⟩⟩⟩⟩⟩⟩⟩⟩⟩⟩⟩⟩⟩⟩⟩⟩
theorem lw_p48 : lw_okq (⟨"HullOffsetsModel", "may", "(II)Z"⟩, 22) := ⟨⟨by decide +kernel, by decide +kernel⟩, List.mem_of_getElem? (i := 426) (by decide +kernel), List.mem_of_getElem? (i := 599) (by decide +kernel), List.mem_of_getElem? (i := 600) (by decide +kernel)⟩
theorem lw_p49 : lw_okq (⟨"HullOffsetsModel", "needFrom", "(IIII)I"⟩, 22) := ⟨⟨by decide +kernel, by decide +kernel⟩, List.mem_of_getElem? (i := 426) (by decide +kernel), List.mem_of_getElem? (i := 604) (by decide +kernel), List.mem_of_getElem? (i := 605) (by decide +kernel)⟩
theorem lw_p50 : lw_okq (⟨"HullOffsetsModel", "isFair", "(IIIII)Z"⟩, 22) := ⟨⟨by decide +kernel, by decide +kernel⟩, List.mem_of_getElem? (i := 426) (by decide +kernel), List.mem_of_getElem? (i := 608) (by decide +kernel), List.mem_of_getElem? (i := 609) (by decide +kernel)⟩
theorem lw_p51 : lw_okq (⟨"HullOffsetsModel", "begins", "()Z"⟩, 22) := ⟨⟨by decide +kernel, by decide +kernel⟩, List.mem_of_getElem? (i := 426) (by decide +kernel), List.mem_of_getElem? (i := 615) (by decide +kernel), List.mem_of_getElem? (i := 616) (by decide +kernel)⟩
theorem lw_p52 : lw_okq (⟨"HullOffsetsModel", "nextMove", "(I)I"⟩, 22) := ⟨⟨by decide +kernel, by decide +kernel⟩, List.mem_of_getElem? (i := 426) (by decide +kernel), List.mem_of_getElem? (i := 619) (by decide +kernel), List.mem_of_getElem? (i := 620) (by decide +kernel)⟩
theorem lw_p53 : lw_okq (⟨"HullOffsetsModel", "fairs", "(II)Z"⟩, 22) := ⟨⟨by decide +kernel, by decide +kernel⟩, List.mem_of_getElem? (i := 426) (by decide +kernel), List.mem_of_getElem? (i := 627) (by decide +kernel), List.mem_of_getElem? (i := 628) (by decide +kernel)⟩
theorem lw_p54 : lw_okq (⟨"HullOffsetsModel", "round", "()Z"⟩, 22) := ⟨⟨by decide +kernel, by decide +kernel⟩, List.mem_of_getElem? (i := 426) (by decide +kernel), List.mem_of_getElem? (i := 636) (by decide +kernel), List.mem_of_getElem? (i := 637) (by decide +kernel)⟩
theorem lw_p55 : lw_okq (⟨"HullOffsetsModel", "sumOf", "(II)J"⟩, 22) := ⟨⟨by decide +kernel, by decide +kernel⟩, List.mem_of_getElem? (i := 426) (by decide +kernel), List.mem_of_getElem? (i := 652) (by decide +kernel), List.mem_of_getElem? (i := 653) (by decide +kernel)⟩
theorem lw_p56 : lw_okq (⟨"HullOffsetsModel", "sixths", "(I)J"⟩, 22) := ⟨⟨by decide +kernel, by decide +kernel⟩, List.mem_of_getElem? (i := 426) (by decide +kernel), List.mem_of_getElem? (i := 656) (by decide +kernel), List.mem_of_getElem? (i := 657) (by decide +kernel)⟩
theorem lw_p57 : lw_okq (⟨"HullOffsetsModel", "findHeight", "(II)Z"⟩, 22) := ⟨⟨by decide +kernel, by decide +kernel⟩, List.mem_of_getElem? (i := 426) (by decide +kernel), List.mem_of_getElem? (i := 681) (by decide +kernel), List.mem_of_getElem? (i := 682) (by decide +kernel)⟩
theorem lw_p58 : lw_okq (⟨"HullOffsetsModel", "breaksAt", "(I)I"⟩, 22) := ⟨⟨by decide +kernel, by decide +kernel⟩, List.mem_of_getElem? (i := 426) (by decide +kernel), List.mem_of_getElem? (i := 689) (by decide +kernel), List.mem_of_getElem? (i := 690) (by decide +kernel)⟩
theorem lw_p59 : lw_okq (⟨"HullOffsetsModel", "isBreak", "(I)Z"⟩, 22) := ⟨⟨by decide +kernel, by decide +kernel⟩, List.mem_of_getElem? (i := 426) (by decide +kernel), List.mem_of_getElem? (i := 693) (by decide +kernel), List.mem_of_getElem? (i := 694) (by decide +kernel)⟩
theorem lw_p60 : lw_okq (⟨"HullOffsetsModel", "manyHeld", "()I"⟩, 22) := ⟨⟨by decide +kernel, by decide +kernel⟩, List.mem_of_getElem? (i := 426) (by decide +kernel), List.mem_of_getElem? (i := 707) (by decide +kernel), List.mem_of_getElem? (i := 708) (by decide +kernel)⟩
theorem lw_p61 : lw_okq (⟨"HullOffsetsModel", "manyRough", "()I"⟩, 22) := ⟨⟨by decide +kernel, by decide +kernel⟩, List.mem_of_getElem? (i := 426) (by decide +kernel), List.mem_of_getElem? (i := 711) (by decide +kernel), List.mem_of_getElem? (i := 712) (by decide +kernel)⟩
theorem lw_p62 : lw_okq (⟨"HullOffsetsModel", "farOff", "()I"⟩, 22) := ⟨⟨by decide +kernel, by decide +kernel⟩, List.mem_of_getElem? (i := 426) (by decide +kernel), List.mem_of_getElem? (i := 715) (by decide +kernel), List.mem_of_getElem? (i := 716) (by decide +kernel)⟩
def lw_privs_4 : List (MethodName × Nat) := [(⟨"HullOffsetsModel", "may", "(II)Z"⟩, 22), (⟨"HullOffsetsModel", "needFrom", "(IIII)I"⟩, 22), (⟨"HullOffsetsModel", "isFair", "(IIIII)Z"⟩, 22), (⟨"HullOffsetsModel", "begins", "()Z"⟩, 22), (⟨"HullOffsetsModel", "nextMove", "(I)I"⟩, 22), (⟨"HullOffsetsModel", "fairs", "(II)Z"⟩, 22), (⟨"HullOffsetsModel", "round", "()Z"⟩, 22), (⟨"HullOffsetsModel", "sumOf", "(II)J"⟩, 22), (⟨"HullOffsetsModel", "sixths", "(I)J"⟩, 22), (⟨"HullOffsetsModel", "findHeight", "(II)Z"⟩, 22), (⟨"HullOffsetsModel", "breaksAt", "(I)I"⟩, 22), (⟨"HullOffsetsModel", "isBreak", "(I)Z"⟩, 22), (⟨"HullOffsetsModel", "manyHeld", "()I"⟩, 22), (⟨"HullOffsetsModel", "manyRough", "()I"⟩, 22), (⟨"HullOffsetsModel", "farOff", "()I"⟩, 22)]
theorem lw_r4 : ∀ q ∈ lw_privs_4, lw_okq q := List.forall_mem_cons.mpr ⟨lw_p48, List.forall_mem_cons.mpr ⟨lw_p49, List.forall_mem_cons.mpr ⟨lw_p50, List.forall_mem_cons.mpr ⟨lw_p51, List.forall_mem_cons.mpr ⟨lw_p52, List.forall_mem_cons.mpr ⟨lw_p53, List.forall_mem_cons.mpr ⟨lw_p54, List.forall_mem_cons.mpr ⟨lw_p55, List.forall_mem_cons.mpr ⟨lw_p56, List.forall_mem_cons.mpr ⟨lw_p57, List.forall_mem_cons.mpr ⟨lw_p58, List.forall_mem_cons.mpr ⟨lw_p59, List.forall_mem_cons.mpr ⟨lw_p60, List.forall_mem_cons.mpr ⟨lw_p61, List.forall_mem_cons.mpr ⟨lw_p62, fun _ h => absurd h List.not_mem_nil⟩⟩⟩⟩⟩⟩⟩⟩⟩⟩⟩⟩⟩⟩⟩
def lw_privs : List (MethodName × Nat) := lw_privs_1 ++ (lw_privs_2 ++ (lw_privs_3 ++ (lw_privs_4)))
def lw_tbl : List Cond := k2_sels lw_privs ++ tables_1
theorem lw_privs_ok : ∀ q ∈ lw_privs, lw_okq q := by
  show ∀ q ∈ lw_privs_1 ++ (lw_privs_2 ++ (lw_privs_3 ++ (lw_privs_4))), lw_okq q
  exact List.forall_mem_append.mpr ⟨lw_r1, List.forall_mem_append.mpr ⟨lw_r2, List.forall_mem_append.mpr ⟨lw_r3, lw_r4⟩⟩⟩
end
section
def RX0 : String := "HullOffsets$Grid"
def TX0 : u_T := fun k => match k with
  | 0 => ("HullOffsets$Grid", "offsets", "[I", true)
  | 1 => ("HullOffsets$Grid", "puts", "[I", true)
  | 2 => ("HullOffsets$Grid", "held", "[Z", true)
  | 3 => ("HullOffsets$Grid", "stations", "I", false)
  | _ => ("HullOffsets$Grid", "lines", "I", false)
def tyX0 : Nat → FieldType := fun k => match k with
  | 0 => .array .int
  | 1 => .array .int
  | 2 => .array .boolean
  | 3 => .int
  | _ => .int
abbrev wsX00 : List Cond := u_ws RX0 TX0 5
theorem nmX0 : ∀ a, a < 5 → ∀ b, b < 5 → a ≠ b → (TX0 a).2.1 ≠ (TX0 b).2.1 := by decide +kernel
theorem tyX0_ok : ∀ k, k < 5 → parseFieldDescriptor (TX0 k).2.2.1 = some (tyX0 k) := by decide +kernel
abbrev cX0_init : ByteArray := prog_2_method_1_code
def yX0_init : MethodName := ⟨RX0, "<init>", "()V"⟩
abbrev cX0_renew : ByteArray := prog_2_method_2_code
def yX0_renew : MethodName := ⟨RX0, "renew", "(II)V"⟩
abbrev cX0_put : ByteArray := prog_2_method_3_code
def yX0_put : MethodName := ⟨RX0, "put", "(II)I"⟩
abbrev cX0_hasPoint : ByteArray := prog_2_method_4_code
def yX0_hasPoint : MethodName := ⟨RX0, "hasPoint", "(II)Z"⟩
abbrev cX0_linesOf : ByteArray := prog_2_method_5_code
def yX0_linesOf : MethodName := ⟨RX0, "linesOf", "(I)I"⟩
abbrev cX0_pointsOf : ByteArray := prog_2_method_6_code
def yX0_pointsOf : MethodName := ⟨RX0, "pointsOf", "(I)I"⟩
abbrev cX0_cell : ByteArray := prog_2_method_7_code
def yX0_cell : MethodName := ⟨RX0, "cell", "(III)I"⟩
abbrev cX0_layOut : ByteArray := prog_2_method_8_code
def yX0_layOut : MethodName := ⟨RX0, "layOut", "(IILHullOffsets$Line;)V"⟩
abbrev cX0_movedBy : ByteArray := prog_2_method_9_code
def yX0_movedBy : MethodName := ⟨RX0, "movedBy", "(I)I"⟩
abbrev cX0_farFromPuts : ByteArray := prog_2_method_10_code
def yX0_farFromPuts : MethodName := ⟨RX0, "farFromPuts", "()I"⟩
abbrev cX0_countHeld : ByteArray := prog_2_method_11_code
def yX0_countHeld : MethodName := ⟨RX0, "countHeld", "()I"⟩
abbrev cX0_broadest : ByteArray := prog_2_method_12_code
def yX0_broadest : MethodName := ⟨RX0, "broadest", "()I"⟩
def RX1 : String := "HullOffsets$Heights"
def TX1 : u_T := fun k => match k with
  | 0 => ("HullOffsets$Heights", "upper", "[J", true)
  | _ => ("HullOffsets$Heights", "lower", "[J", true)
def tyX1 : Nat → FieldType := fun k => match k with
  | 0 => .array .long
  | _ => .array .long
abbrev wsX10 : List Cond := u_ws RX1 TX1 2
theorem nmX1 : ∀ a, a < 2 → ∀ b, b < 2 → a ≠ b → (TX1 a).2.1 ≠ (TX1 b).2.1 := by decide +kernel
theorem tyX1_ok : ∀ k, k < 2 → parseFieldDescriptor (TX1 k).2.2.1 = some (tyX1 k) := by decide +kernel
abbrev cX1_init : ByteArray := prog_3_method_1_code
def yX1_init : MethodName := ⟨RX1, "<init>", "()V"⟩
abbrev cX1_isThere : ByteArray := prog_3_method_2_code
def yX1_isThere : MethodName := ⟨RX1, "isThere", "(I)Z"⟩
abbrev cX1_measure : ByteArray := prog_3_method_3_code
def yX1_measure : MethodName := ⟨RX1, "measure", "(LHullOffsets$Grid;II)V"⟩
abbrev cX1_countBreaks : ByteArray := prog_3_method_4_code
def yX1_countBreaks : MethodName := ⟨RX1, "countBreaks", "(LHullOffsets$Grid;II)I"⟩
abbrev cX1_isBreak : ByteArray := prog_3_method_5_code
def yX1_isBreak : MethodName := ⟨RX1, "isBreak", "(II)Z"⟩
def RX2 : String := "HullOffsets$LeastMoves"
def TX2 : u_T := fun k => match k with
  | 0 => ("HullOffsets$LeastMoves", "from", "[I", true)
  | 1 => ("HullOffsets$LeastMoves", "low", "[I", true)
  | 2 => ("HullOffsets$LeastMoves", "top", "[I", true)
  | 3 => ("HullOffsets$LeastMoves", "moves", "[I", true)
  | 4 => ("HullOffsets$LeastMoves", "fewest", "[I", true)
  | 5 => ("HullOffsets$LeastMoves", "points", "I", false)
  | _ => ("HullOffsets$LeastMoves", "bound", "I", false)
def tyX2 : Nat → FieldType := fun k => match k with
  | 0 => .array .int
  | 1 => .array .int
  | 2 => .array .int
  | 3 => .array .int
  | 4 => .array .int
  | 5 => .int
  | _ => .int
abbrev wsX20 : List Cond := u_ws RX2 TX2 7
theorem nmX2 : ∀ a, a < 7 → ∀ b, b < 7 → a ≠ b → (TX2 a).2.1 ≠ (TX2 b).2.1 := by decide +kernel
theorem tyX2_ok : ∀ k, k < 7 → parseFieldDescriptor (TX2 k).2.2.1 = some (tyX2 k) := by decide +kernel
abbrev cX2_init : ByteArray := prog_4_method_1_code
def yX2_init : MethodName := ⟨RX2, "<init>", "()V"⟩
abbrev cX2_place : ByteArray := prog_4_method_2_code
def yX2_place : MethodName := ⟨RX2, "place", "(III)V"⟩
abbrev cX2_stay : ByteArray := prog_4_method_3_code
def yX2_stay : MethodName := ⟨RX2, "stay", "()V"⟩
abbrev cX2_moveOf : ByteArray := prog_4_method_4_code
def yX2_moveOf : MethodName := ⟨RX2, "moveOf", "(I)I"⟩
abbrev cX2_seek : ByteArray := prog_4_method_5_code
def yX2_seek : MethodName := ⟨RX2, "seek", "(II)I"⟩
abbrev cX2_keepFewest : ByteArray := prog_4_method_6_code
def yX2_keepFewest : MethodName := ⟨RX2, "keepFewest", "(I)V"⟩
abbrev cX2_fewestFrom : ByteArray := prog_4_method_7_code
def yX2_fewestFrom : MethodName := ⟨RX2, "fewestFrom", "(IIII)I"⟩
abbrev cX2_firstLeading : ByteArray := prog_4_method_8_code
def yX2_firstLeading : MethodName := ⟨RX2, "firstLeading", "(IIII)I"⟩
abbrev cX2_jumpUnmoved : ByteArray := prog_4_method_9_code
def yX2_jumpUnmoved : MethodName := ⟨RX2, "jumpUnmoved", "(IIII)I"⟩
abbrev cX2_firstFit : ByteArray := prog_4_method_10_code
def yX2_firstFit : MethodName := ⟨RX2, "firstFit", "(II)I"⟩
abbrev cX2_lastFit : ByteArray := prog_4_method_11_code
def yX2_lastFit : MethodName := ⟨RX2, "lastFit", "(II)I"⟩
abbrev cX2_slot : ByteArray := prog_4_method_12_code
def yX2_slot : MethodName := ⟨RX2, "slot", "(IIII)I"⟩
def RX3 : String := "HullOffsets$Line"
def TX3 : u_T := fun k => match k with
  | 0 => ("HullOffsets$Line", "offsets", "[I", true)
  | _ => ("HullOffsets$Line", "points", "I", false)
def tyX3 : Nat → FieldType := fun k => match k with
  | 0 => .array .int
  | _ => .int
abbrev wsX30 : List Cond := u_ws RX3 TX3 2
theorem nmX3 : ∀ a, a < 2 → ∀ b, b < 2 → a ≠ b → (TX3 a).2.1 ≠ (TX3 b).2.1 := by decide +kernel
theorem tyX3_ok : ∀ k, k < 2 → parseFieldDescriptor (TX3 k).2.2.1 = some (tyX3 k) := by decide +kernel
abbrev cX3_init : ByteArray := prog_5_method_1_code
def yX3_init : MethodName := ⟨RX3, "<init>", "()V"⟩
abbrev cX3_bendAt : ByteArray := prog_5_method_2_code
def yX3_bendAt : MethodName := ⟨RX3, "bendAt", "(I)I"⟩
abbrev cX3_jumpAt : ByteArray := prog_5_method_3_code
def yX3_jumpAt : MethodName := ⟨RX3, "jumpAt", "(I)I"⟩
abbrev cX3_farthestJump : ByteArray := prog_5_method_4_code
def yX3_farthestJump : MethodName := ⟨RX3, "farthestJump", "()I"⟩
abbrev cX3_firstJumpThatFar : ByteArray := prog_5_method_5_code
def yX3_firstJumpThatFar : MethodName := ⟨RX3, "firstJumpThatFar", "(I)I"⟩
abbrev cX3_countJumpsBeyond : ByteArray := prog_5_method_6_code
def yX3_countJumpsBeyond : MethodName := ⟨RX3, "countJumpsBeyond", "(I)I"⟩
def RX4 : String := "HullOffsets"
def TX4 : u_T := fun k => match k with
  | 0 => ("HullOffsets", "grid", "LHullOffsets$Grid;", true)
  | 1 => ("HullOffsets", "taken", "LHullOffsets$Line;", true)
  | 2 => ("HullOffsets", "search", "LHullOffsets$LeastMoves;", true)
  | 3 => ("HullOffsets", "heights", "LHullOffsets$Heights;", true)
  | 4 => ("HullOffsets", "settings", "[I", true)
  | 5 => ("HullOffsets", "asBegun", "[I", true)
  | _ => ("HullOffsets", "values", "[I", true)
def tyX4 : Nat → FieldType := fun k => match k with
  | 0 => .object "HullOffsets$Grid"
  | 1 => .object "HullOffsets$Line"
  | 2 => .object "HullOffsets$LeastMoves"
  | 3 => .object "HullOffsets$Heights"
  | 4 => .array .int
  | 5 => .array .int
  | _ => .array .int
abbrev wsX40 : List Cond := u_ws RX4 TX4 7
theorem nmX4 : ∀ a, a < 7 → ∀ b, b < 7 → a ≠ b → (TX4 a).2.1 ≠ (TX4 b).2.1 := by decide +kernel
theorem tyX4_ok : ∀ k, k < 7 → parseFieldDescriptor (TX4 k).2.2.1 = some (tyX4 k) := by decide +kernel
abbrev cX4_init : ByteArray := prog_1_method_1_code
def yX4_init : MethodName := ⟨RX4, "<init>", "()V"⟩
abbrev cX4_hull : ByteArray := prog_1_method_2_code
def yX4_hull : MethodName := ⟨RX4, "hull", "(II)I"⟩
abbrev cX4_offset : ByteArray := prog_1_method_3_code
def yX4_offset : MethodName := ⟨RX4, "offset", "(III)I"⟩
abbrev cX4_hold : ByteArray := prog_1_method_4_code
def yX4_hold : MethodName := ⟨RX4, "hold", "(IIZ)I"⟩
abbrev cX4_setting : ByteArray := prog_1_method_5_code
def yX4_setting : MethodName := ⟨RX4, "setting", "(II)I"⟩
abbrev cX4_ofPoint : ByteArray := prog_1_method_6_code
def yX4_ofPoint : MethodName := ⟨RX4, "ofPoint", "(III)I"⟩
abbrev cX4_bend : ByteArray := prog_1_method_7_code
def yX4_bend : MethodName := ⟨RX4, "bend", "(III)I"⟩
abbrev cX4_jump : ByteArray := prog_1_method_8_code
def yX4_jump : MethodName := ⟨RX4, "jump", "(III)I"⟩
abbrev cX4_roughest : ByteArray := prog_1_method_9_code
def yX4_roughest : MethodName := ⟨RX4, "roughest", "(I)I"⟩
abbrev cX4_rough : ByteArray := prog_1_method_10_code
def yX4_rough : MethodName := ⟨RX4, "rough", "(II)I"⟩
abbrev cX4_least : ByteArray := prog_1_method_11_code
def yX4_least : MethodName := ⟨RX4, "least", "(III)I"⟩
abbrev cX4_fair : ByteArray := prog_1_method_12_code
def yX4_fair : MethodName := ⟨RX4, "fair", "(II)I"⟩
abbrev cX4_rounds : ByteArray := prog_1_method_13_code
def yX4_rounds : MethodName := ⟨RX4, "rounds", "(I)I"⟩
abbrev cX4_back : ByteArray := prog_1_method_14_code
def yX4_back : MethodName := ⟨RX4, "back", "()I"⟩
abbrev cX4_area : ByteArray := prog_1_method_15_code
def yX4_area : MethodName := ⟨RX4, "area", "(III)J"⟩
abbrev cX4_centre : ByteArray := prog_1_method_16_code
def yX4_centre : MethodName := ⟨RX4, "centre", "(III)J"⟩
abbrev cX4_volume : ByteArray := prog_1_method_17_code
def yX4_volume : MethodName := ⟨RX4, "volume", "(II)J"⟩
abbrev cX4_height : ByteArray := prog_1_method_18_code
def yX4_height : MethodName := ⟨RX4, "height", "(III)J"⟩
abbrev cX4_breaks : ByteArray := prog_1_method_19_code
def yX4_breaks : MethodName := ⟨RX4, "breaks", "(I)I"⟩
abbrev cX4_worst : ByteArray := prog_1_method_20_code
def yX4_worst : MethodName := ⟨RX4, "worst", "()I"⟩
abbrev cX4_many : ByteArray := prog_1_method_21_code
def yX4_many : MethodName := ⟨RX4, "many", "(I)I"⟩
abbrev cX4_isNot : ByteArray := prog_1_method_22_code
def yX4_isNot : MethodName := ⟨RX4, "isNot", "(III)Z"⟩
abbrev cX4_cellOf : ByteArray := prog_1_method_23_code
def yX4_cellOf : MethodName := ⟨RX4, "cellOf", "(II)I"⟩
abbrev cX4_refusalOfLine : ByteArray := prog_1_method_24_code
def yX4_refusalOfLine : MethodName := ⟨RX4, "refusalOfLine", "(II)I"⟩
abbrev cX4_takeLine : ByteArray := prog_1_method_25_code
def yX4_takeLine : MethodName := ⟨RX4, "takeLine", "(II)V"⟩
abbrev cX4_countUnfair : ByteArray := prog_1_method_26_code
def yX4_countUnfair : MethodName := ⟨RX4, "countUnfair", "()I"⟩
abbrev cX4_seekLeast : ByteArray := prog_1_method_27_code
def yX4_seekLeast : MethodName := ⟨RX4, "seekLeast", "(II)I"⟩
abbrev cX4_addMoves : ByteArray := prog_1_method_28_code
def yX4_addMoves : MethodName := ⟨RX4, "addMoves", "(II)V"⟩
abbrev cX4_roundChanges : ByteArray := prog_1_method_29_code
def yX4_roundChanges : MethodName := ⟨RX4, "roundChanges", "()Z"⟩
abbrev cX4_areaInSixths : ByteArray := prog_1_method_30_code
def yX4_areaInSixths : MethodName := ⟨RX4, "areaInSixths", "(II)I"⟩
abbrev cX4_sumInSixths : ByteArray := prog_1_method_31_code
def yX4_sumInSixths : MethodName := ⟨RX4, "sumInSixths", "([II)I"⟩
abbrev cX4_toldShare : ByteArray := prog_1_method_32_code
def yX4_toldShare : MethodName := ⟨RX4, "toldShare", "(JJI)J"⟩
abbrev cX4_commonDivisor : ByteArray := prog_1_method_33_code
def yX4_commonDivisor : MethodName := ⟨RX4, "commonDivisor", "(JJ)J"⟩
def RX5 : String := "HullOffsetsModel"
def TX5 : u_T := fun k => match k with
  | 0 => ("HullOffsetsModel", "stations", "I", false)
  | 1 => ("HullOffsetsModel", "waters", "I", false)
  | 2 => ("HullOffsetsModel", "bound", "I", false)
  | 3 => ("HullOffsetsModel", "reach", "I", false)
  | 4 => ("HullOffsetsModel", "longBy", "I", false)
  | 5 => ("HullOffsetsModel", "highBy", "I", false)
  | 6 => ("HullOffsetsModel", "offset", "[I", true)
  | 7 => ("HullOffsetsModel", "put", "[I", true)
  | 8 => ("HullOffsetsModel", "held", "[Z", true)
  | 9 => ("HullOffsetsModel", "points", "I", false)
  | 10 => ("HullOffsetsModel", "pointOf", "[I", true)
  | 11 => ("HullOffsetsModel", "at", "[I", true)
  | 12 => ("HullOffsetsModel", "need", "[I", true)
  | 13 => ("HullOffsetsModel", "move", "[I", true)
  | 14 => ("HullOffsetsModel", "together", "I", false)
  | 15 => ("HullOffsetsModel", "before", "[I", true)
  | 16 => ("HullOffsetsModel", "row", "[J", true)
  | 17 => ("HullOffsetsModel", "sums", "[J", true)
  | 18 => ("HullOffsetsModel", "upper", "J", false)
  | 19 => ("HullOffsetsModel", "lower", "J", false)
  | 20 => ("HullOffsetsModel", "uppers", "[J", true)
  | _ => ("HullOffsetsModel", "lowers", "[J", true)
def tyX5 : Nat → FieldType := fun k => match k with
  | 0 => .int
  | 1 => .int
  | 2 => .int
  | 3 => .int
  | 4 => .int
  | 5 => .int
  | 6 => .array .int
  | 7 => .array .int
  | 8 => .array .boolean
  | 9 => .int
  | 10 => .array .int
  | 11 => .array .int
  | 12 => .array .int
  | 13 => .array .int
  | 14 => .int
  | 15 => .array .int
  | 16 => .array .long
  | 17 => .array .long
  | 18 => .long
  | 19 => .long
  | 20 => .array .long
  | _ => .array .long
abbrev wsX50 : List Cond := u_ws RX5 TX5 22
theorem nmX5 : ∀ a, a < 22 → ∀ b, b < 22 → a ≠ b → (TX5 a).2.1 ≠ (TX5 b).2.1 := by decide +kernel
theorem tyX5_ok : ∀ k, k < 22 → parseFieldDescriptor (TX5 k).2.2.1 = some (tyX5 k) := by decide +kernel
abbrev cX5_init : ByteArray := prog_7_method_1_code
def yX5_init : MethodName := ⟨RX5, "<init>", "()V"⟩
abbrev cX5_within : ByteArray := prog_7_method_2_code
def yX5_within : MethodName := ⟨RX5, "within", "(JJJ)Z"⟩
abbrev cX5_far : ByteArray := prog_7_method_3_code
def yX5_far : MethodName := ⟨RX5, "far", "(I)I"⟩
abbrev cX5_isPoint : ByteArray := prog_7_method_4_code
def yX5_isPoint : MethodName := ⟨RX5, "isPoint", "(II)Z"⟩
abbrev cX5_isOffset : ByteArray := prog_7_method_5_code
def yX5_isOffset : MethodName := ⟨RX5, "isOffset", "(I)Z"⟩
abbrev cX5_hull : ByteArray := prog_7_method_6_code
def yX5_hull : MethodName := ⟨RX5, "hull", "(II)I"⟩
abbrev cX5_offset : ByteArray := prog_7_method_7_code
def yX5_offset : MethodName := ⟨RX5, "offset", "(III)I"⟩
abbrev cX5_hold : ByteArray := prog_7_method_8_code
def yX5_hold : MethodName := ⟨RX5, "hold", "(IIZ)I"⟩
abbrev cX5_setting : ByteArray := prog_7_method_9_code
def yX5_setting : MethodName := ⟨RX5, "setting", "(II)I"⟩
abbrev cX5_ofPoint : ByteArray := prog_7_method_10_code
def yX5_ofPoint : MethodName := ⟨RX5, "ofPoint", "(III)I"⟩
abbrev cX5_isView : ByteArray := prog_7_method_11_code
def yX5_isView : MethodName := ⟨RX5, "isView", "(I)Z"⟩
abbrev cX5_linesOf : ByteArray := prog_7_method_12_code
def yX5_linesOf : MethodName := ⟨RX5, "linesOf", "(I)I"⟩
abbrev cX5_isLine : ByteArray := prog_7_method_13_code
def yX5_isLine : MethodName := ⟨RX5, "isLine", "(II)Z"⟩
abbrev cX5_lays : ByteArray := prog_7_method_14_code
def yX5_lays : MethodName := ⟨RX5, "lays", "(II)V"⟩
abbrev cX5_bendAt : ByteArray := prog_7_method_15_code
def yX5_bendAt : MethodName := ⟨RX5, "bendAt", "(I)I"⟩
abbrev cX5_jumpAt : ByteArray := prog_7_method_16_code
def yX5_jumpAt : MethodName := ⟨RX5, "jumpAt", "(I)I"⟩
abbrev cX5_barred : ByteArray := prog_7_method_17_code
def yX5_barred : MethodName := ⟨RX5, "barred", "(IIII)I"⟩
abbrev cX5_bend : ByteArray := prog_7_method_18_code
def yX5_bend : MethodName := ⟨RX5, "bend", "(III)I"⟩
abbrev cX5_jump : ByteArray := prog_7_method_19_code
def yX5_jump : MethodName := ⟨RX5, "jump", "(III)I"⟩
abbrev cX5_roughest : ByteArray := prog_7_method_20_code
def yX5_roughest : MethodName := ⟨RX5, "roughest", "(I)I"⟩
abbrev cX5_roughNow : ByteArray := prog_7_method_21_code
def yX5_roughNow : MethodName := ⟨RX5, "roughNow", "()I"⟩
abbrev cX5_rough : ByteArray := prog_7_method_22_code
def yX5_rough : MethodName := ⟨RX5, "rough", "(II)I"⟩
abbrev cX5_may : ByteArray := prog_7_method_23_code
def yX5_may : MethodName := ⟨RX5, "may", "(II)Z"⟩
abbrev cX5_triple : ByteArray := prog_7_method_24_code
def yX5_triple : MethodName := ⟨RX5, "triple", "(III)I"⟩
abbrev cX5_isFair : ByteArray := prog_7_method_25_code
def yX5_isFair : MethodName := ⟨RX5, "isFair", "(IIIII)Z"⟩
abbrev cX5_needFrom : ByteArray := prog_7_method_26_code
def yX5_needFrom : MethodName := ⟨RX5, "needFrom", "(IIII)I"⟩
abbrev cX5_findNeeds : ByteArray := prog_7_method_27_code
def yX5_findNeeds : MethodName := ⟨RX5, "findNeeds", "()V"⟩
abbrev cX5_begins : ByteArray := prog_7_method_28_code
def yX5_begins : MethodName := ⟨RX5, "begins", "()Z"⟩
abbrev cX5_nextMove : ByteArray := prog_7_method_29_code
def yX5_nextMove : MethodName := ⟨RX5, "nextMove", "(I)I"⟩
abbrev cX5_findLeast : ByteArray := prog_7_method_30_code
def yX5_findLeast : MethodName := ⟨RX5, "findLeast", "()Z"⟩
abbrev cX5_least : ByteArray := prog_7_method_31_code
def yX5_least : MethodName := ⟨RX5, "least", "(III)I"⟩
abbrev cX5_fairs : ByteArray := prog_7_method_32_code
def yX5_fairs : MethodName := ⟨RX5, "fairs", "(II)Z"⟩
abbrev cX5_fair : ByteArray := prog_7_method_33_code
def yX5_fair : MethodName := ⟨RX5, "fair", "(II)I"⟩
abbrev cX5_round : ByteArray := prog_7_method_34_code
def yX5_round : MethodName := ⟨RX5, "round", "()Z"⟩
abbrev cX5_rounds : ByteArray := prog_7_method_35_code
def yX5_rounds : MethodName := ⟨RX5, "rounds", "(I)I"⟩
abbrev cX5_back : ByteArray := prog_7_method_36_code
def yX5_back : MethodName := ⟨RX5, "back", "()I"⟩
abbrev cX5_sixths : ByteArray := prog_7_method_37_code
def yX5_sixths : MethodName := ⟨RX5, "sixths", "(I)J"⟩
abbrev cX5_told : ByteArray := prog_7_method_38_code
def yX5_told : MethodName := ⟨RX5, "told", "(JJI)J"⟩
abbrev cX5_isWhich : ByteArray := prog_7_method_39_code
def yX5_isWhich : MethodName := ⟨RX5, "isWhich", "(I)Z"⟩
abbrev cX5_sumOf : ByteArray := prog_7_method_40_code
def yX5_sumOf : MethodName := ⟨RX5, "sumOf", "(II)J"⟩
abbrev cX5_area : ByteArray := prog_7_method_41_code
def yX5_area : MethodName := ⟨RX5, "area", "(III)J"⟩
abbrev cX5_centre : ByteArray := prog_7_method_42_code
def yX5_centre : MethodName := ⟨RX5, "centre", "(III)J"⟩
abbrev cX5_volume : ByteArray := prog_7_method_43_code
def yX5_volume : MethodName := ⟨RX5, "volume", "(II)J"⟩
abbrev cX5_findHeight : ByteArray := prog_7_method_44_code
def yX5_findHeight : MethodName := ⟨RX5, "findHeight", "(II)Z"⟩
abbrev cX5_isBreadth : ByteArray := prog_7_method_45_code
def yX5_isBreadth : MethodName := ⟨RX5, "isBreadth", "(I)Z"⟩
abbrev cX5_height : ByteArray := prog_7_method_46_code
def yX5_height : MethodName := ⟨RX5, "height", "(III)J"⟩
abbrev cX5_isBreak : ByteArray := prog_7_method_47_code
def yX5_isBreak : MethodName := ⟨RX5, "isBreak", "(I)Z"⟩
abbrev cX5_breaksAt : ByteArray := prog_7_method_48_code
def yX5_breaksAt : MethodName := ⟨RX5, "breaksAt", "(I)I"⟩
abbrev cX5_breaks : ByteArray := prog_7_method_49_code
def yX5_breaks : MethodName := ⟨RX5, "breaks", "(I)I"⟩
abbrev cX5_worst : ByteArray := prog_7_method_50_code
def yX5_worst : MethodName := ⟨RX5, "worst", "()I"⟩
abbrev cX5_manyRough : ByteArray := prog_7_method_51_code
def yX5_manyRough : MethodName := ⟨RX5, "manyRough", "()I"⟩
abbrev cX5_manyHeld : ByteArray := prog_7_method_52_code
def yX5_manyHeld : MethodName := ⟨RX5, "manyHeld", "()I"⟩
abbrev cX5_farOff : ByteArray := prog_7_method_53_code
def yX5_farOff : MethodName := ⟨RX5, "farOff", "()I"⟩
abbrev cX5_many : ByteArray := prog_7_method_54_code
def yX5_many : MethodName := ⟨RX5, "many", "(I)I"⟩
def RL : String := "HullOffsetsLaw"
abbrev cL_law : ByteArray := code
def yL_law : MethodName := ⟨RL, "law", "([I)Z"⟩
abbrev vwCl : List vw_C := [(RX0, TX0, 5), (RX1, TX1, 2), (RX2, TX2, 7), (RX3, TX3, 2), (RX4, TX4, 7), (RX5, TX5, 22)]
end
section
def TW : List Cond := lw_tbl.filter goodWord
abbrev i32 (n : Int) : Int32 := Int32.ofInt n
abbrev i64 (n : Int) : Int64 := Int64.ofInt n
theorem tw_sel_X0_renew : Cond.selects RX0 yX0_renew yX0_renew ∈ TW := List.mem_filter.mpr ⟨List.mem_of_getElem? (i := 0) (by decide +kernel), by decide +kernel⟩
theorem tw_sel_X0_hasPoint : Cond.selects RX0 yX0_hasPoint yX0_hasPoint ∈ TW := List.mem_filter.mpr ⟨List.mem_of_getElem? (i := 1) (by decide +kernel), by decide +kernel⟩
theorem tw_sel_X0_put : Cond.selects RX0 yX0_put yX0_put ∈ TW := List.mem_filter.mpr ⟨List.mem_of_getElem? (i := 2) (by decide +kernel), by decide +kernel⟩
theorem tw_sel_X0_movedBy : Cond.selects RX0 yX0_movedBy yX0_movedBy ∈ TW := List.mem_filter.mpr ⟨List.mem_of_getElem? (i := 3) (by decide +kernel), by decide +kernel⟩
theorem tw_sel_X4_refusalOfLine : Cond.selects RX4 yX4_refusalOfLine yX4_refusalOfLine ∈ TW := List.mem_filter.mpr ⟨List.mem_of_getElem? (i := 4) (by decide +kernel), by decide +kernel⟩
theorem tw_sel_X0_linesOf : Cond.selects RX0 yX0_linesOf yX0_linesOf ∈ TW := List.mem_filter.mpr ⟨List.mem_of_getElem? (i := 5) (by decide +kernel), by decide +kernel⟩
theorem tw_sel_X4_takeLine : Cond.selects RX4 yX4_takeLine yX4_takeLine ∈ TW := List.mem_filter.mpr ⟨List.mem_of_getElem? (i := 6) (by decide +kernel), by decide +kernel⟩
theorem tw_sel_X0_layOut : Cond.selects RX0 yX0_layOut yX0_layOut ∈ TW := List.mem_filter.mpr ⟨List.mem_of_getElem? (i := 7) (by decide +kernel), by decide +kernel⟩
theorem tw_sel_X0_pointsOf : Cond.selects RX0 yX0_pointsOf yX0_pointsOf ∈ TW := List.mem_filter.mpr ⟨List.mem_of_getElem? (i := 8) (by decide +kernel), by decide +kernel⟩
theorem tw_sel_X0_cell : Cond.selects RX0 yX0_cell yX0_cell ∈ TW := List.mem_filter.mpr ⟨List.mem_of_getElem? (i := 9) (by decide +kernel), by decide +kernel⟩
theorem tw_sel_X3_bendAt : Cond.selects RX3 yX3_bendAt yX3_bendAt ∈ TW := List.mem_filter.mpr ⟨List.mem_of_getElem? (i := 10) (by decide +kernel), by decide +kernel⟩
theorem tw_sel_X3_jumpAt : Cond.selects RX3 yX3_jumpAt yX3_jumpAt ∈ TW := List.mem_filter.mpr ⟨List.mem_of_getElem? (i := 11) (by decide +kernel), by decide +kernel⟩
theorem tw_sel_X3_farthestJump : Cond.selects RX3 yX3_farthestJump yX3_farthestJump ∈ TW := List.mem_filter.mpr ⟨List.mem_of_getElem? (i := 12) (by decide +kernel), by decide +kernel⟩
theorem tw_sel_X3_firstJumpThatFar : Cond.selects RX3 yX3_firstJumpThatFar yX3_firstJumpThatFar ∈ TW := List.mem_filter.mpr ⟨List.mem_of_getElem? (i := 13) (by decide +kernel), by decide +kernel⟩
theorem tw_sel_X3_countJumpsBeyond : Cond.selects RX3 yX3_countJumpsBeyond yX3_countJumpsBeyond ∈ TW := List.mem_filter.mpr ⟨List.mem_of_getElem? (i := 14) (by decide +kernel), by decide +kernel⟩
theorem tw_sel_X4_seekLeast : Cond.selects RX4 yX4_seekLeast yX4_seekLeast ∈ TW := List.mem_filter.mpr ⟨List.mem_of_getElem? (i := 15) (by decide +kernel), by decide +kernel⟩
theorem tw_sel_X2_stay : Cond.selects RX2 yX2_stay yX2_stay ∈ TW := List.mem_filter.mpr ⟨List.mem_of_getElem? (i := 16) (by decide +kernel), by decide +kernel⟩
theorem tw_sel_X2_place : Cond.selects RX2 yX2_place yX2_place ∈ TW := List.mem_filter.mpr ⟨List.mem_of_getElem? (i := 17) (by decide +kernel), by decide +kernel⟩
theorem tw_sel_X2_seek : Cond.selects RX2 yX2_seek yX2_seek ∈ TW := List.mem_filter.mpr ⟨List.mem_of_getElem? (i := 18) (by decide +kernel), by decide +kernel⟩
theorem tw_sel_X2_keepFewest : Cond.selects RX2 yX2_keepFewest yX2_keepFewest ∈ TW := List.mem_filter.mpr ⟨List.mem_of_getElem? (i := 19) (by decide +kernel), by decide +kernel⟩
theorem tw_sel_X2_slot : Cond.selects RX2 yX2_slot yX2_slot ∈ TW := List.mem_filter.mpr ⟨List.mem_of_getElem? (i := 20) (by decide +kernel), by decide +kernel⟩
theorem tw_sel_X2_fewestFrom : Cond.selects RX2 yX2_fewestFrom yX2_fewestFrom ∈ TW := List.mem_filter.mpr ⟨List.mem_of_getElem? (i := 21) (by decide +kernel), by decide +kernel⟩
theorem tw_sel_X2_jumpUnmoved : Cond.selects RX2 yX2_jumpUnmoved yX2_jumpUnmoved ∈ TW := List.mem_filter.mpr ⟨List.mem_of_getElem? (i := 22) (by decide +kernel), by decide +kernel⟩
theorem tw_sel_X2_lastFit : Cond.selects RX2 yX2_lastFit yX2_lastFit ∈ TW := List.mem_filter.mpr ⟨List.mem_of_getElem? (i := 23) (by decide +kernel), by decide +kernel⟩
theorem tw_sel_X2_firstFit : Cond.selects RX2 yX2_firstFit yX2_firstFit ∈ TW := List.mem_filter.mpr ⟨List.mem_of_getElem? (i := 24) (by decide +kernel), by decide +kernel⟩
theorem tw_sel_X2_firstLeading : Cond.selects RX2 yX2_firstLeading yX2_firstLeading ∈ TW := List.mem_filter.mpr ⟨List.mem_of_getElem? (i := 25) (by decide +kernel), by decide +kernel⟩
theorem tw_sel_X2_moveOf : Cond.selects RX2 yX2_moveOf yX2_moveOf ∈ TW := List.mem_filter.mpr ⟨List.mem_of_getElem? (i := 26) (by decide +kernel), by decide +kernel⟩
theorem tw_sel_X4_addMoves : Cond.selects RX4 yX4_addMoves yX4_addMoves ∈ TW := List.mem_filter.mpr ⟨List.mem_of_getElem? (i := 27) (by decide +kernel), by decide +kernel⟩
theorem tw_sel_X4_roundChanges : Cond.selects RX4 yX4_roundChanges yX4_roundChanges ∈ TW := List.mem_filter.mpr ⟨List.mem_of_getElem? (i := 28) (by decide +kernel), by decide +kernel⟩
theorem tw_sel_X4_areaInSixths : Cond.selects RX4 yX4_areaInSixths yX4_areaInSixths ∈ TW := List.mem_filter.mpr ⟨List.mem_of_getElem? (i := 29) (by decide +kernel), by decide +kernel⟩
theorem tw_sel_X1_measure : Cond.selects RX1 yX1_measure yX1_measure ∈ TW := List.mem_filter.mpr ⟨List.mem_of_getElem? (i := 30) (by decide +kernel), by decide +kernel⟩
theorem tw_sel_X1_isThere : Cond.selects RX1 yX1_isThere yX1_isThere ∈ TW := List.mem_filter.mpr ⟨List.mem_of_getElem? (i := 31) (by decide +kernel), by decide +kernel⟩
theorem tw_sel_X1_countBreaks : Cond.selects RX1 yX1_countBreaks yX1_countBreaks ∈ TW := List.mem_filter.mpr ⟨List.mem_of_getElem? (i := 32) (by decide +kernel), by decide +kernel⟩
theorem tw_sel_X1_isBreak : Cond.selects RX1 yX1_isBreak yX1_isBreak ∈ TW := List.mem_filter.mpr ⟨List.mem_of_getElem? (i := 33) (by decide +kernel), by decide +kernel⟩
theorem tw_sel_X0_broadest : Cond.selects RX0 yX0_broadest yX0_broadest ∈ TW := List.mem_filter.mpr ⟨List.mem_of_getElem? (i := 34) (by decide +kernel), by decide +kernel⟩
theorem tw_sel_X0_countHeld : Cond.selects RX0 yX0_countHeld yX0_countHeld ∈ TW := List.mem_filter.mpr ⟨List.mem_of_getElem? (i := 35) (by decide +kernel), by decide +kernel⟩
theorem tw_sel_X4_countUnfair : Cond.selects RX4 yX4_countUnfair yX4_countUnfair ∈ TW := List.mem_filter.mpr ⟨List.mem_of_getElem? (i := 36) (by decide +kernel), by decide +kernel⟩
theorem tw_sel_X0_farFromPuts : Cond.selects RX0 yX0_farFromPuts yX0_farFromPuts ∈ TW := List.mem_filter.mpr ⟨List.mem_of_getElem? (i := 37) (by decide +kernel), by decide +kernel⟩
theorem tw_sel_X5_isPoint : Cond.selects RX5 yX5_isPoint yX5_isPoint ∈ TW := List.mem_filter.mpr ⟨List.mem_of_getElem? (i := 38) (by decide +kernel), by decide +kernel⟩
theorem tw_sel_X5_barred : Cond.selects RX5 yX5_barred yX5_barred ∈ TW := List.mem_filter.mpr ⟨List.mem_of_getElem? (i := 39) (by decide +kernel), by decide +kernel⟩
theorem tw_sel_X5_isLine : Cond.selects RX5 yX5_isLine yX5_isLine ∈ TW := List.mem_filter.mpr ⟨List.mem_of_getElem? (i := 40) (by decide +kernel), by decide +kernel⟩
theorem tw_sel_X5_linesOf : Cond.selects RX5 yX5_linesOf yX5_linesOf ∈ TW := List.mem_filter.mpr ⟨List.mem_of_getElem? (i := 41) (by decide +kernel), by decide +kernel⟩
theorem tw_sel_X5_lays : Cond.selects RX5 yX5_lays yX5_lays ∈ TW := List.mem_filter.mpr ⟨List.mem_of_getElem? (i := 42) (by decide +kernel), by decide +kernel⟩
theorem tw_sel_X5_bendAt : Cond.selects RX5 yX5_bendAt yX5_bendAt ∈ TW := List.mem_filter.mpr ⟨List.mem_of_getElem? (i := 43) (by decide +kernel), by decide +kernel⟩
theorem tw_sel_X5_jumpAt : Cond.selects RX5 yX5_jumpAt yX5_jumpAt ∈ TW := List.mem_filter.mpr ⟨List.mem_of_getElem? (i := 44) (by decide +kernel), by decide +kernel⟩
theorem tw_sel_X5_roughNow : Cond.selects RX5 yX5_roughNow yX5_roughNow ∈ TW := List.mem_filter.mpr ⟨List.mem_of_getElem? (i := 45) (by decide +kernel), by decide +kernel⟩
theorem tw_sel_X5_findLeast : Cond.selects RX5 yX5_findLeast yX5_findLeast ∈ TW := List.mem_filter.mpr ⟨List.mem_of_getElem? (i := 46) (by decide +kernel), by decide +kernel⟩
theorem tw_sel_X5_findNeeds : Cond.selects RX5 yX5_findNeeds yX5_findNeeds ∈ TW := List.mem_filter.mpr ⟨List.mem_of_getElem? (i := 47) (by decide +kernel), by decide +kernel⟩
theorem tw_sel_X5_may : Cond.selects RX5 yX5_may yX5_may ∈ TW := List.mem_filter.mpr ⟨List.mem_of_getElem? (i := 48) (by decide +kernel), by decide +kernel⟩
theorem tw_sel_X5_needFrom : Cond.selects RX5 yX5_needFrom yX5_needFrom ∈ TW := List.mem_filter.mpr ⟨List.mem_of_getElem? (i := 49) (by decide +kernel), by decide +kernel⟩
theorem tw_sel_X5_isFair : Cond.selects RX5 yX5_isFair yX5_isFair ∈ TW := List.mem_filter.mpr ⟨List.mem_of_getElem? (i := 50) (by decide +kernel), by decide +kernel⟩
theorem tw_sel_X5_begins : Cond.selects RX5 yX5_begins yX5_begins ∈ TW := List.mem_filter.mpr ⟨List.mem_of_getElem? (i := 51) (by decide +kernel), by decide +kernel⟩
theorem tw_sel_X5_nextMove : Cond.selects RX5 yX5_nextMove yX5_nextMove ∈ TW := List.mem_filter.mpr ⟨List.mem_of_getElem? (i := 52) (by decide +kernel), by decide +kernel⟩
theorem tw_sel_X5_fairs : Cond.selects RX5 yX5_fairs yX5_fairs ∈ TW := List.mem_filter.mpr ⟨List.mem_of_getElem? (i := 53) (by decide +kernel), by decide +kernel⟩
theorem tw_sel_X5_round : Cond.selects RX5 yX5_round yX5_round ∈ TW := List.mem_filter.mpr ⟨List.mem_of_getElem? (i := 54) (by decide +kernel), by decide +kernel⟩
theorem tw_sel_X5_sumOf : Cond.selects RX5 yX5_sumOf yX5_sumOf ∈ TW := List.mem_filter.mpr ⟨List.mem_of_getElem? (i := 55) (by decide +kernel), by decide +kernel⟩
theorem tw_sel_X5_sixths : Cond.selects RX5 yX5_sixths yX5_sixths ∈ TW := List.mem_filter.mpr ⟨List.mem_of_getElem? (i := 56) (by decide +kernel), by decide +kernel⟩
theorem tw_sel_X5_findHeight : Cond.selects RX5 yX5_findHeight yX5_findHeight ∈ TW := List.mem_filter.mpr ⟨List.mem_of_getElem? (i := 57) (by decide +kernel), by decide +kernel⟩
theorem tw_sel_X5_breaksAt : Cond.selects RX5 yX5_breaksAt yX5_breaksAt ∈ TW := List.mem_filter.mpr ⟨List.mem_of_getElem? (i := 58) (by decide +kernel), by decide +kernel⟩
theorem tw_sel_X5_isBreak : Cond.selects RX5 yX5_isBreak yX5_isBreak ∈ TW := List.mem_filter.mpr ⟨List.mem_of_getElem? (i := 59) (by decide +kernel), by decide +kernel⟩
theorem tw_sel_X5_manyHeld : Cond.selects RX5 yX5_manyHeld yX5_manyHeld ∈ TW := List.mem_filter.mpr ⟨List.mem_of_getElem? (i := 60) (by decide +kernel), by decide +kernel⟩
theorem tw_sel_X5_manyRough : Cond.selects RX5 yX5_manyRough yX5_manyRough ∈ TW := List.mem_filter.mpr ⟨List.mem_of_getElem? (i := 61) (by decide +kernel), by decide +kernel⟩
theorem tw_sel_X5_farOff : Cond.selects RX5 yX5_farOff yX5_farOff ∈ TW := List.mem_filter.mpr ⟨List.mem_of_getElem? (i := 62) (by decide +kernel), by decide +kernel⟩
theorem tw_ini_L : Cond.initialized RL ∈ TW := List.mem_filter.mpr ⟨List.mem_of_getElem? (i := 63) (by decide +kernel), by decide +kernel⟩
theorem tw_ini_X4 : Cond.initialized RX4 ∈ TW := List.mem_filter.mpr ⟨List.mem_of_getElem? (i := 64) (by decide +kernel), by decide +kernel⟩
theorem tw_ini_X0 : Cond.initialized RX0 ∈ TW := List.mem_filter.mpr ⟨List.mem_of_getElem? (i := 65) (by decide +kernel), by decide +kernel⟩
theorem tw_ini_X3 : Cond.initialized RX3 ∈ TW := List.mem_filter.mpr ⟨List.mem_of_getElem? (i := 66) (by decide +kernel), by decide +kernel⟩
theorem tw_ini_X2 : Cond.initialized RX2 ∈ TW := List.mem_filter.mpr ⟨List.mem_of_getElem? (i := 67) (by decide +kernel), by decide +kernel⟩
theorem tw_ini_X1 : Cond.initialized RX1 ∈ TW := List.mem_filter.mpr ⟨List.mem_of_getElem? (i := 68) (by decide +kernel), by decide +kernel⟩
theorem tw_ini_X5 : Cond.initialized RX5 ∈ TW := List.mem_filter.mpr ⟨List.mem_of_getElem? (i := 69) (by decide +kernel), by decide +kernel⟩
theorem tw_ini_java_lang_Math : Cond.initialized "java/lang/Math" ∈ TW := List.mem_filter.mpr ⟨List.mem_of_getElem? (i := 70) (by decide +kernel), by decide +kernel⟩
theorem tw_ini_java_lang_System : Cond.initialized "java/lang/System" ∈ TW := List.mem_filter.mpr ⟨List.mem_of_getElem? (i := 71) (by decide +kernel), by decide +kernel⟩
theorem tw_kl_L_7 : Cond.classLink RL 7 RX4 ∈ TW := List.mem_filter.mpr ⟨List.mem_of_getElem? (i := 72) (by decide +kernel), by decide +kernel⟩
theorem tw_mk_X4 : Cond.instantiable RX4 7 ∈ TW := List.mem_filter.mpr ⟨List.mem_of_getElem? (i := 73) (by decide +kernel), by decide +kernel⟩
theorem tw_ml_L_9 : Cond.methodLink RL 9 yX4_init ∈ TW := List.mem_filter.mpr ⟨List.mem_of_getElem? (i := 74) (by decide +kernel), by decide +kernel⟩
theorem tw_ins_X4_init : Cond.instanceMethod yX4_init ∈ TW := List.mem_filter.mpr ⟨List.mem_of_getElem? (i := 75) (by decide +kernel), by decide +kernel⟩
theorem tw_cod_X4_init : Cond.code yX4_init cX4_init 1 none ∈ TW := List.mem_filter.mpr ⟨List.mem_of_getElem? (i := 76) (by decide +kernel), by decide +kernel⟩
theorem tw_ml_X4_5 : Cond.methodLink RX4 5 objectInit ∈ TW := List.mem_filter.mpr ⟨List.mem_of_getElem? (i := 77) (by decide +kernel), by decide +kernel⟩
theorem tw_ins_Object__init_ : Cond.instanceMethod objectInit ∈ TW := List.mem_filter.mpr ⟨List.mem_of_getElem? (i := 78) (by decide +kernel), by decide +kernel⟩
theorem tw_cod_Object__init_ : Cond.code objectInit ⟨#[0xb1]⟩ 1 none ∈ TW := List.mem_filter.mpr ⟨List.mem_of_getElem? (i := 79) (by decide +kernel), by decide +kernel⟩
theorem tw_kl_X4_11 : Cond.classLink RX4 11 RX0 ∈ TW := List.mem_filter.mpr ⟨List.mem_of_getElem? (i := 80) (by decide +kernel), by decide +kernel⟩
theorem tw_mk_X0 : Cond.instantiable RX0 5 ∈ TW := List.mem_filter.mpr ⟨List.mem_of_getElem? (i := 81) (by decide +kernel), by decide +kernel⟩
theorem tw_ins_X0_init : Cond.instanceMethod yX0_init ∈ TW := List.mem_filter.mpr ⟨List.mem_of_getElem? (i := 83) (by decide +kernel), by decide +kernel⟩
theorem tw_cod_X0_init : Cond.code yX0_init cX0_init 1 none ∈ TW := List.mem_filter.mpr ⟨List.mem_of_getElem? (i := 84) (by decide +kernel), by decide +kernel⟩
theorem tw_ml_X0_3 : Cond.methodLink RX0 3 objectInit ∈ TW := List.mem_filter.mpr ⟨List.mem_of_getElem? (i := 85) (by decide +kernel), by decide +kernel⟩
theorem tw_fl_X0_9 : Cond.fieldLink RX0 9 "HullOffsets$Grid" "offsets" "[I" ∈ TW := List.mem_filter.mpr ⟨List.mem_of_getElem? (i := 86) (by decide +kernel), by decide +kernel⟩
theorem tw_fl_X0_15 : Cond.fieldLink RX0 15 "HullOffsets$Grid" "puts" "[I" ∈ TW := List.mem_filter.mpr ⟨List.mem_of_getElem? (i := 89) (by decide +kernel), by decide +kernel⟩
theorem tw_fl_X0_18 : Cond.fieldLink RX0 18 "HullOffsets$Grid" "held" "[Z" ∈ TW := List.mem_filter.mpr ⟨List.mem_of_getElem? (i := 91) (by decide +kernel), by decide +kernel⟩
theorem tw_fl_X0_22 : Cond.fieldLink RX0 22 "HullOffsets$Grid" "stations" "I" ∈ TW := List.mem_filter.mpr ⟨List.mem_of_getElem? (i := 93) (by decide +kernel), by decide +kernel⟩
theorem tw_fl_X0_26 : Cond.fieldLink RX0 26 "HullOffsets$Grid" "lines" "I" ∈ TW := List.mem_filter.mpr ⟨List.mem_of_getElem? (i := 96) (by decide +kernel), by decide +kernel⟩
theorem tw_arr_int : Cond.arrayClass .int ∈ TW := List.mem_filter.mpr ⟨List.mem_of_getElem? (i := 110) (by decide +kernel), by decide +kernel⟩
theorem tw_arr_boolean : Cond.arrayClass .boolean ∈ TW := List.mem_filter.mpr ⟨List.mem_of_getElem? (i := 111) (by decide +kernel), by decide +kernel⟩
theorem tw_kl_X4_18 : Cond.classLink RX4 18 RX3 ∈ TW := List.mem_filter.mpr ⟨List.mem_of_getElem? (i := 112) (by decide +kernel), by decide +kernel⟩
theorem tw_mk_X3 : Cond.instantiable RX3 2 ∈ TW := List.mem_filter.mpr ⟨List.mem_of_getElem? (i := 113) (by decide +kernel), by decide +kernel⟩
theorem tw_ins_X3_init : Cond.instanceMethod yX3_init ∈ TW := List.mem_filter.mpr ⟨List.mem_of_getElem? (i := 115) (by decide +kernel), by decide +kernel⟩
theorem tw_cod_X3_init : Cond.code yX3_init cX3_init 1 none ∈ TW := List.mem_filter.mpr ⟨List.mem_of_getElem? (i := 116) (by decide +kernel), by decide +kernel⟩
theorem tw_ml_X3_3 : Cond.methodLink RX3 3 objectInit ∈ TW := List.mem_filter.mpr ⟨List.mem_of_getElem? (i := 117) (by decide +kernel), by decide +kernel⟩
theorem tw_fl_X3_9 : Cond.fieldLink RX3 9 "HullOffsets$Line" "offsets" "[I" ∈ TW := List.mem_filter.mpr ⟨List.mem_of_getElem? (i := 118) (by decide +kernel), by decide +kernel⟩
theorem tw_fl_X3_19 : Cond.fieldLink RX3 19 "HullOffsets$Line" "points" "I" ∈ TW := List.mem_filter.mpr ⟨List.mem_of_getElem? (i := 121) (by decide +kernel), by decide +kernel⟩
theorem tw_kl_X4_25 : Cond.classLink RX4 25 RX2 ∈ TW := List.mem_filter.mpr ⟨List.mem_of_getElem? (i := 129) (by decide +kernel), by decide +kernel⟩
theorem tw_mk_X2 : Cond.instantiable RX2 7 ∈ TW := List.mem_filter.mpr ⟨List.mem_of_getElem? (i := 130) (by decide +kernel), by decide +kernel⟩
theorem tw_ins_X2_init : Cond.instanceMethod yX2_init ∈ TW := List.mem_filter.mpr ⟨List.mem_of_getElem? (i := 132) (by decide +kernel), by decide +kernel⟩
theorem tw_cod_X2_init : Cond.code yX2_init cX2_init 1 none ∈ TW := List.mem_filter.mpr ⟨List.mem_of_getElem? (i := 133) (by decide +kernel), by decide +kernel⟩
theorem tw_ml_X2_5 : Cond.methodLink RX2 5 objectInit ∈ TW := List.mem_filter.mpr ⟨List.mem_of_getElem? (i := 134) (by decide +kernel), by decide +kernel⟩
theorem tw_fl_X2_11 : Cond.fieldLink RX2 11 "HullOffsets$LeastMoves" "from" "[I" ∈ TW := List.mem_filter.mpr ⟨List.mem_of_getElem? (i := 135) (by decide +kernel), by decide +kernel⟩
theorem tw_fl_X2_15 : Cond.fieldLink RX2 15 "HullOffsets$LeastMoves" "low" "[I" ∈ TW := List.mem_filter.mpr ⟨List.mem_of_getElem? (i := 136) (by decide +kernel), by decide +kernel⟩
theorem tw_fl_X2_18 : Cond.fieldLink RX2 18 "HullOffsets$LeastMoves" "top" "[I" ∈ TW := List.mem_filter.mpr ⟨List.mem_of_getElem? (i := 137) (by decide +kernel), by decide +kernel⟩
theorem tw_fl_X2_21 : Cond.fieldLink RX2 21 "HullOffsets$LeastMoves" "moves" "[I" ∈ TW := List.mem_filter.mpr ⟨List.mem_of_getElem? (i := 138) (by decide +kernel), by decide +kernel⟩
theorem tw_fl_X2_24 : Cond.fieldLink RX2 24 "HullOffsets$LeastMoves" "fewest" "[I" ∈ TW := List.mem_filter.mpr ⟨List.mem_of_getElem? (i := 139) (by decide +kernel), by decide +kernel⟩
theorem tw_fl_X2_36 : Cond.fieldLink RX2 36 "HullOffsets$LeastMoves" "points" "I" ∈ TW := List.mem_filter.mpr ⟨List.mem_of_getElem? (i := 140) (by decide +kernel), by decide +kernel⟩
theorem tw_fl_X2_40 : Cond.fieldLink RX2 40 "HullOffsets$LeastMoves" "bound" "I" ∈ TW := List.mem_filter.mpr ⟨List.mem_of_getElem? (i := 141) (by decide +kernel), by decide +kernel⟩
theorem tw_kl_X4_32 : Cond.classLink RX4 32 RX1 ∈ TW := List.mem_filter.mpr ⟨List.mem_of_getElem? (i := 157) (by decide +kernel), by decide +kernel⟩
theorem tw_mk_X1 : Cond.instantiable RX1 2 ∈ TW := List.mem_filter.mpr ⟨List.mem_of_getElem? (i := 158) (by decide +kernel), by decide +kernel⟩
theorem tw_ins_X1_init : Cond.instanceMethod yX1_init ∈ TW := List.mem_filter.mpr ⟨List.mem_of_getElem? (i := 160) (by decide +kernel), by decide +kernel⟩
theorem tw_cod_X1_init : Cond.code yX1_init cX1_init 1 none ∈ TW := List.mem_filter.mpr ⟨List.mem_of_getElem? (i := 161) (by decide +kernel), by decide +kernel⟩
theorem tw_ml_X1_3 : Cond.methodLink RX1 3 objectInit ∈ TW := List.mem_filter.mpr ⟨List.mem_of_getElem? (i := 162) (by decide +kernel), by decide +kernel⟩
theorem tw_fl_X1_9 : Cond.fieldLink RX1 9 "HullOffsets$Heights" "upper" "[J" ∈ TW := List.mem_filter.mpr ⟨List.mem_of_getElem? (i := 163) (by decide +kernel), by decide +kernel⟩
theorem tw_fl_X1_15 : Cond.fieldLink RX1 15 "HullOffsets$Heights" "lower" "[J" ∈ TW := List.mem_filter.mpr ⟨List.mem_of_getElem? (i := 165) (by decide +kernel), by decide +kernel⟩
theorem tw_arr_long : Cond.arrayClass .long ∈ TW := List.mem_filter.mpr ⟨List.mem_of_getElem? (i := 172) (by decide +kernel), by decide +kernel⟩
theorem tw_fl_X4_39 : Cond.fieldLink RX4 39 "HullOffsets" "SETTING_FIRST" "[I" ∈ TW := List.mem_filter.mpr ⟨List.mem_of_getElem? (i := 173) (by decide +kernel), by decide +kernel⟩
theorem tw_ls_SETTING_FIRST : Cond.laysStatic "HullOffsets" "SETTING_FIRST" "[I" ∈ lw_tbl := List.mem_of_getElem? (i := 174) (by decide +kernel)
theorem tw_ml_X4_43 : Cond.methodLink RX4 43 ⟨"[I", "clone", "()Ljava/lang/Object;"⟩ ∈ TW := List.mem_filter.mpr ⟨List.mem_of_getElem? (i := 175) (by decide +kernel), by decide +kernel⟩
theorem tw_sam_clone : Cond.sameMethod "[I" "java/lang/Object" "clone" "()Ljava/lang/Object;" ∈ TW := List.mem_filter.mpr ⟨List.mem_of_getElem? (i := 176) (by decide +kernel), by decide +kernel⟩
theorem tw_nat_Object_clone : Cond.native ⟨"java/lang/Object", "clone", "()Ljava/lang/Object;"⟩ ∈ TW := List.mem_filter.mpr ⟨List.mem_of_getElem? (i := 177) (by decide +kernel), by decide +kernel⟩
theorem tw_ins_Object_clone : Cond.instanceMethod ⟨"java/lang/Object", "clone", "()Ljava/lang/Object;"⟩ ∈ TW := List.mem_filter.mpr ⟨List.mem_of_getElem? (i := 178) (by decide +kernel), by decide +kernel⟩
theorem tw_sel__I_clone : Cond.selects "[I" ⟨"[I", "clone", "()Ljava/lang/Object;"⟩ ⟨"java/lang/Object", "clone", "()Ljava/lang/Object;"⟩ ∈ TW := List.mem_filter.mpr ⟨List.mem_of_getElem? (i := 179) (by decide +kernel), by decide +kernel⟩
theorem tw_kl_X4_44 : Cond.classLink RX4 44 "[I" ∈ TW := List.mem_filter.mpr ⟨List.mem_of_getElem? (i := 181) (by decide +kernel), by decide +kernel⟩
theorem tw_ins_X0_renew : Cond.instanceMethod yX0_renew ∈ TW := List.mem_filter.mpr ⟨List.mem_of_getElem? (i := 184) (by decide +kernel), by decide +kernel⟩
theorem tw_cod_X0_renew : Cond.code yX0_renew cX0_renew 4 none ∈ TW := List.mem_filter.mpr ⟨List.mem_of_getElem? (i := 185) (by decide +kernel), by decide +kernel⟩
theorem tw_fl_X4_14 : Cond.fieldLink RX4 14 "HullOffsets" "grid" "LHullOffsets$Grid;" ∈ TW := List.mem_filter.mpr ⟨List.mem_of_getElem? (i := 186) (by decide +kernel), by decide +kernel⟩
theorem tw_fl_X4_21 : Cond.fieldLink RX4 21 "HullOffsets" "taken" "LHullOffsets$Line;" ∈ TW := List.mem_filter.mpr ⟨List.mem_of_getElem? (i := 187) (by decide +kernel), by decide +kernel⟩
theorem tw_fl_X4_28 : Cond.fieldLink RX4 28 "HullOffsets" "search" "LHullOffsets$LeastMoves;" ∈ TW := List.mem_filter.mpr ⟨List.mem_of_getElem? (i := 188) (by decide +kernel), by decide +kernel⟩
theorem tw_fl_X4_35 : Cond.fieldLink RX4 35 "HullOffsets" "heights" "LHullOffsets$Heights;" ∈ TW := List.mem_filter.mpr ⟨List.mem_of_getElem? (i := 189) (by decide +kernel), by decide +kernel⟩
theorem tw_fl_X4_48 : Cond.fieldLink RX4 48 "HullOffsets" "settings" "[I" ∈ TW := List.mem_filter.mpr ⟨List.mem_of_getElem? (i := 190) (by decide +kernel), by decide +kernel⟩
theorem tw_fl_X4_51 : Cond.fieldLink RX4 51 "HullOffsets" "asBegun" "[I" ∈ TW := List.mem_filter.mpr ⟨List.mem_of_getElem? (i := 191) (by decide +kernel), by decide +kernel⟩
theorem tw_fl_X4_54 : Cond.fieldLink RX4 54 "HullOffsets" "values" "[I" ∈ TW := List.mem_filter.mpr ⟨List.mem_of_getElem? (i := 192) (by decide +kernel), by decide +kernel⟩
theorem tw_ml_L_13 : Cond.methodLink RL 13 yX4_hull ∈ TW := List.mem_filter.mpr ⟨List.mem_of_getElem? (i := 208) (by decide +kernel), by decide +kernel⟩
theorem tw_ins_X4_hull : Cond.instanceMethod yX4_hull ∈ TW := List.mem_filter.mpr ⟨List.mem_of_getElem? (i := 209) (by decide +kernel), by decide +kernel⟩
theorem tw_sel_X4_hull : Cond.selects RX4 yX4_hull yX4_hull ∈ TW := List.mem_filter.mpr ⟨List.mem_of_getElem? (i := 210) (by decide +kernel), by decide +kernel⟩
theorem tw_cod_X4_hull : Cond.code yX4_hull cX4_hull 3 (some .int) ∈ TW := List.mem_filter.mpr ⟨List.mem_of_getElem? (i := 211) (by decide +kernel), by decide +kernel⟩
theorem tw_ml_X4_61 : Cond.methodLink RX4 61 yX4_isNot ∈ TW := List.mem_filter.mpr ⟨List.mem_of_getElem? (i := 212) (by decide +kernel), by decide +kernel⟩
theorem tw_sta_X4_isNot : Cond.static yX4_isNot ∈ TW := List.mem_filter.mpr ⟨List.mem_of_getElem? (i := 213) (by decide +kernel), by decide +kernel⟩
theorem tw_cod_X4_isNot : Cond.code yX4_isNot cX4_isNot 3 (some .boolean) ∈ TW := List.mem_filter.mpr ⟨List.mem_of_getElem? (i := 214) (by decide +kernel), by decide +kernel⟩
theorem tw_ml_L_18 : Cond.methodLink RL 18 yX4_offset ∈ TW := List.mem_filter.mpr ⟨List.mem_of_getElem? (i := 215) (by decide +kernel), by decide +kernel⟩
theorem tw_ins_X4_offset : Cond.instanceMethod yX4_offset ∈ TW := List.mem_filter.mpr ⟨List.mem_of_getElem? (i := 216) (by decide +kernel), by decide +kernel⟩
theorem tw_sel_X4_offset : Cond.selects RX4 yX4_offset yX4_offset ∈ TW := List.mem_filter.mpr ⟨List.mem_of_getElem? (i := 217) (by decide +kernel), by decide +kernel⟩
theorem tw_cod_X4_offset : Cond.code yX4_offset cX4_offset 4 (some .int) ∈ TW := List.mem_filter.mpr ⟨List.mem_of_getElem? (i := 218) (by decide +kernel), by decide +kernel⟩
theorem tw_ins_X0_hasPoint : Cond.instanceMethod yX0_hasPoint ∈ TW := List.mem_filter.mpr ⟨List.mem_of_getElem? (i := 221) (by decide +kernel), by decide +kernel⟩
theorem tw_cod_X0_hasPoint : Cond.code yX0_hasPoint cX0_hasPoint 3 (some .boolean) ∈ TW := List.mem_filter.mpr ⟨List.mem_of_getElem? (i := 222) (by decide +kernel), by decide +kernel⟩
theorem tw_ml_X4_69 : Cond.methodLink RX4 69 yX4_cellOf ∈ TW := List.mem_filter.mpr ⟨List.mem_of_getElem? (i := 223) (by decide +kernel), by decide +kernel⟩
theorem tw_sta_X4_cellOf : Cond.static yX4_cellOf ∈ TW := List.mem_filter.mpr ⟨List.mem_of_getElem? (i := 224) (by decide +kernel), by decide +kernel⟩
theorem tw_cod_X4_cellOf : Cond.code yX4_cellOf cX4_cellOf 2 (some .int) ∈ TW := List.mem_filter.mpr ⟨List.mem_of_getElem? (i := 225) (by decide +kernel), by decide +kernel⟩
theorem tw_ins_X0_put : Cond.instanceMethod yX0_put ∈ TW := List.mem_filter.mpr ⟨List.mem_of_getElem? (i := 228) (by decide +kernel), by decide +kernel⟩
theorem tw_cod_X0_put : Cond.code yX0_put cX0_put 4 (some .int) ∈ TW := List.mem_filter.mpr ⟨List.mem_of_getElem? (i := 229) (by decide +kernel), by decide +kernel⟩
theorem tw_ml_L_23 : Cond.methodLink RL 23 yX4_hold ∈ TW := List.mem_filter.mpr ⟨List.mem_of_getElem? (i := 230) (by decide +kernel), by decide +kernel⟩
theorem tw_ins_X4_hold : Cond.instanceMethod yX4_hold ∈ TW := List.mem_filter.mpr ⟨List.mem_of_getElem? (i := 231) (by decide +kernel), by decide +kernel⟩
theorem tw_sel_X4_hold : Cond.selects RX4 yX4_hold yX4_hold ∈ TW := List.mem_filter.mpr ⟨List.mem_of_getElem? (i := 232) (by decide +kernel), by decide +kernel⟩
theorem tw_cod_X4_hold : Cond.code yX4_hold cX4_hold 5 (some .int) ∈ TW := List.mem_filter.mpr ⟨List.mem_of_getElem? (i := 233) (by decide +kernel), by decide +kernel⟩
theorem tw_ml_L_28 : Cond.methodLink RL 28 yX4_setting ∈ TW := List.mem_filter.mpr ⟨List.mem_of_getElem? (i := 234) (by decide +kernel), by decide +kernel⟩
theorem tw_ins_X4_setting : Cond.instanceMethod yX4_setting ∈ TW := List.mem_filter.mpr ⟨List.mem_of_getElem? (i := 235) (by decide +kernel), by decide +kernel⟩
theorem tw_sel_X4_setting : Cond.selects RX4 yX4_setting yX4_setting ∈ TW := List.mem_filter.mpr ⟨List.mem_of_getElem? (i := 236) (by decide +kernel), by decide +kernel⟩
theorem tw_cod_X4_setting : Cond.code yX4_setting cX4_setting 4 (some .int) ∈ TW := List.mem_filter.mpr ⟨List.mem_of_getElem? (i := 237) (by decide +kernel), by decide +kernel⟩
theorem tw_fl_X4_80 : Cond.fieldLink RX4 80 "HullOffsets" "SETTING_LOW" "[I" ∈ TW := List.mem_filter.mpr ⟨List.mem_of_getElem? (i := 238) (by decide +kernel), by decide +kernel⟩
theorem tw_ls_SETTING_LOW : Cond.laysStatic "HullOffsets" "SETTING_LOW" "[I" ∈ lw_tbl := List.mem_of_getElem? (i := 239) (by decide +kernel)
theorem tw_fl_X4_83 : Cond.fieldLink RX4 83 "HullOffsets" "SETTING_TOP" "[I" ∈ TW := List.mem_filter.mpr ⟨List.mem_of_getElem? (i := 240) (by decide +kernel), by decide +kernel⟩
theorem tw_ls_SETTING_TOP : Cond.laysStatic "HullOffsets" "SETTING_TOP" "[I" ∈ lw_tbl := List.mem_of_getElem? (i := 241) (by decide +kernel)
theorem tw_ml_L_32 : Cond.methodLink RL 32 yX4_ofPoint ∈ TW := List.mem_filter.mpr ⟨List.mem_of_getElem? (i := 242) (by decide +kernel), by decide +kernel⟩
theorem tw_ins_X4_ofPoint : Cond.instanceMethod yX4_ofPoint ∈ TW := List.mem_filter.mpr ⟨List.mem_of_getElem? (i := 243) (by decide +kernel), by decide +kernel⟩
theorem tw_sel_X4_ofPoint : Cond.selects RX4 yX4_ofPoint yX4_ofPoint ∈ TW := List.mem_filter.mpr ⟨List.mem_of_getElem? (i := 244) (by decide +kernel), by decide +kernel⟩
theorem tw_cod_X4_ofPoint : Cond.code yX4_ofPoint cX4_ofPoint 5 (some .int) ∈ TW := List.mem_filter.mpr ⟨List.mem_of_getElem? (i := 245) (by decide +kernel), by decide +kernel⟩
theorem tw_ins_X0_movedBy : Cond.instanceMethod yX0_movedBy ∈ TW := List.mem_filter.mpr ⟨List.mem_of_getElem? (i := 248) (by decide +kernel), by decide +kernel⟩
theorem tw_cod_X0_movedBy : Cond.code yX0_movedBy cX0_movedBy 2 (some .int) ∈ TW := List.mem_filter.mpr ⟨List.mem_of_getElem? (i := 249) (by decide +kernel), by decide +kernel⟩
theorem tw_ml_L_36 : Cond.methodLink RL 36 yX4_bend ∈ TW := List.mem_filter.mpr ⟨List.mem_of_getElem? (i := 250) (by decide +kernel), by decide +kernel⟩
theorem tw_ins_X4_bend : Cond.instanceMethod yX4_bend ∈ TW := List.mem_filter.mpr ⟨List.mem_of_getElem? (i := 251) (by decide +kernel), by decide +kernel⟩
theorem tw_sel_X4_bend : Cond.selects RX4 yX4_bend yX4_bend ∈ TW := List.mem_filter.mpr ⟨List.mem_of_getElem? (i := 252) (by decide +kernel), by decide +kernel⟩
theorem tw_cod_X4_bend : Cond.code yX4_bend cX4_bend 5 (some .int) ∈ TW := List.mem_filter.mpr ⟨List.mem_of_getElem? (i := 253) (by decide +kernel), by decide +kernel⟩
theorem tw_ml_X4_93 : Cond.methodLink RX4 93 yX4_refusalOfLine ∈ TW := List.mem_filter.mpr ⟨List.mem_of_getElem? (i := 254) (by decide +kernel), by decide +kernel⟩
theorem tw_ins_X4_refusalOfLine : Cond.instanceMethod yX4_refusalOfLine ∈ TW := List.mem_filter.mpr ⟨List.mem_of_getElem? (i := 256) (by decide +kernel), by decide +kernel⟩
theorem tw_cod_X4_refusalOfLine : Cond.code yX4_refusalOfLine cX4_refusalOfLine 3 (some .int) ∈ TW := List.mem_filter.mpr ⟨List.mem_of_getElem? (i := 257) (by decide +kernel), by decide +kernel⟩
theorem tw_ins_X0_linesOf : Cond.instanceMethod yX0_linesOf ∈ TW := List.mem_filter.mpr ⟨List.mem_of_getElem? (i := 260) (by decide +kernel), by decide +kernel⟩
theorem tw_cod_X0_linesOf : Cond.code yX0_linesOf cX0_linesOf 2 (some .int) ∈ TW := List.mem_filter.mpr ⟨List.mem_of_getElem? (i := 261) (by decide +kernel), by decide +kernel⟩
theorem tw_ml_X4_96 : Cond.methodLink RX4 96 yX4_takeLine ∈ TW := List.mem_filter.mpr ⟨List.mem_of_getElem? (i := 262) (by decide +kernel), by decide +kernel⟩
theorem tw_ins_X4_takeLine : Cond.instanceMethod yX4_takeLine ∈ TW := List.mem_filter.mpr ⟨List.mem_of_getElem? (i := 264) (by decide +kernel), by decide +kernel⟩
theorem tw_cod_X4_takeLine : Cond.code yX4_takeLine cX4_takeLine 3 none ∈ TW := List.mem_filter.mpr ⟨List.mem_of_getElem? (i := 265) (by decide +kernel), by decide +kernel⟩
theorem tw_ins_X0_layOut : Cond.instanceMethod yX0_layOut ∈ TW := List.mem_filter.mpr ⟨List.mem_of_getElem? (i := 268) (by decide +kernel), by decide +kernel⟩
theorem tw_cod_X0_layOut : Cond.code yX0_layOut cX0_layOut 5 none ∈ TW := List.mem_filter.mpr ⟨List.mem_of_getElem? (i := 269) (by decide +kernel), by decide +kernel⟩
theorem tw_ml_X0_33 : Cond.methodLink RX0 33 yX0_pointsOf ∈ TW := List.mem_filter.mpr ⟨List.mem_of_getElem? (i := 270) (by decide +kernel), by decide +kernel⟩
theorem tw_ins_X0_pointsOf : Cond.instanceMethod yX0_pointsOf ∈ TW := List.mem_filter.mpr ⟨List.mem_of_getElem? (i := 272) (by decide +kernel), by decide +kernel⟩
theorem tw_cod_X0_pointsOf : Cond.code yX0_pointsOf cX0_pointsOf 2 (some .int) ∈ TW := List.mem_filter.mpr ⟨List.mem_of_getElem? (i := 273) (by decide +kernel), by decide +kernel⟩
theorem tw_ml_X0_43 : Cond.methodLink RX0 43 yX0_cell ∈ TW := List.mem_filter.mpr ⟨List.mem_of_getElem? (i := 274) (by decide +kernel), by decide +kernel⟩
theorem tw_ins_X0_cell : Cond.instanceMethod yX0_cell ∈ TW := List.mem_filter.mpr ⟨List.mem_of_getElem? (i := 276) (by decide +kernel), by decide +kernel⟩
theorem tw_cod_X0_cell : Cond.code yX0_cell cX0_cell 4 (some .int) ∈ TW := List.mem_filter.mpr ⟨List.mem_of_getElem? (i := 277) (by decide +kernel), by decide +kernel⟩
theorem tw_ins_X3_bendAt : Cond.instanceMethod yX3_bendAt ∈ TW := List.mem_filter.mpr ⟨List.mem_of_getElem? (i := 281) (by decide +kernel), by decide +kernel⟩
theorem tw_cod_X3_bendAt : Cond.code yX3_bendAt cX3_bendAt 2 (some .int) ∈ TW := List.mem_filter.mpr ⟨List.mem_of_getElem? (i := 282) (by decide +kernel), by decide +kernel⟩
theorem tw_ml_L_40 : Cond.methodLink RL 40 yX4_jump ∈ TW := List.mem_filter.mpr ⟨List.mem_of_getElem? (i := 283) (by decide +kernel), by decide +kernel⟩
theorem tw_ins_X4_jump : Cond.instanceMethod yX4_jump ∈ TW := List.mem_filter.mpr ⟨List.mem_of_getElem? (i := 284) (by decide +kernel), by decide +kernel⟩
theorem tw_sel_X4_jump : Cond.selects RX4 yX4_jump yX4_jump ∈ TW := List.mem_filter.mpr ⟨List.mem_of_getElem? (i := 285) (by decide +kernel), by decide +kernel⟩
theorem tw_cod_X4_jump : Cond.code yX4_jump cX4_jump 5 (some .int) ∈ TW := List.mem_filter.mpr ⟨List.mem_of_getElem? (i := 286) (by decide +kernel), by decide +kernel⟩
theorem tw_ins_X3_jumpAt : Cond.instanceMethod yX3_jumpAt ∈ TW := List.mem_filter.mpr ⟨List.mem_of_getElem? (i := 289) (by decide +kernel), by decide +kernel⟩
theorem tw_cod_X3_jumpAt : Cond.code yX3_jumpAt cX3_jumpAt 2 (some .int) ∈ TW := List.mem_filter.mpr ⟨List.mem_of_getElem? (i := 290) (by decide +kernel), by decide +kernel⟩
theorem tw_ml_X3_15 : Cond.methodLink RX3 15 yX3_bendAt ∈ TW := List.mem_filter.mpr ⟨List.mem_of_getElem? (i := 291) (by decide +kernel), by decide +kernel⟩
theorem tw_ml_L_44 : Cond.methodLink RL 44 yX4_roughest ∈ TW := List.mem_filter.mpr ⟨List.mem_of_getElem? (i := 292) (by decide +kernel), by decide +kernel⟩
theorem tw_ins_X4_roughest : Cond.instanceMethod yX4_roughest ∈ TW := List.mem_filter.mpr ⟨List.mem_of_getElem? (i := 293) (by decide +kernel), by decide +kernel⟩
theorem tw_sel_X4_roughest : Cond.selects RX4 yX4_roughest yX4_roughest ∈ TW := List.mem_filter.mpr ⟨List.mem_of_getElem? (i := 294) (by decide +kernel), by decide +kernel⟩
theorem tw_cod_X4_roughest : Cond.code yX4_roughest cX4_roughest 7 (some .int) ∈ TW := List.mem_filter.mpr ⟨List.mem_of_getElem? (i := 295) (by decide +kernel), by decide +kernel⟩
theorem tw_ins_X3_farthestJump : Cond.instanceMethod yX3_farthestJump ∈ TW := List.mem_filter.mpr ⟨List.mem_of_getElem? (i := 298) (by decide +kernel), by decide +kernel⟩
theorem tw_cod_X3_farthestJump : Cond.code yX3_farthestJump cX3_farthestJump 3 (some .int) ∈ TW := List.mem_filter.mpr ⟨List.mem_of_getElem? (i := 299) (by decide +kernel), by decide +kernel⟩
theorem tw_ml_X3_23 : Cond.methodLink RX3 23 yX3_jumpAt ∈ TW := List.mem_filter.mpr ⟨List.mem_of_getElem? (i := 300) (by decide +kernel), by decide +kernel⟩
theorem tw_ml_X3_26 : Cond.methodLink RX3 26 Lib.Math.abs.name ∈ TW := List.mem_filter.mpr ⟨List.mem_of_getElem? (i := 301) (by decide +kernel), by decide +kernel⟩
theorem tw_sta_Math_abs : Cond.static Lib.Math.abs.name ∈ TW := List.mem_filter.mpr ⟨List.mem_of_getElem? (i := 302) (by decide +kernel), by decide +kernel⟩
theorem tw_cod_Math_abs : Cond.code Lib.Math.abs.name Lib.Math.abs.code 1 (some .int) ∈ TW := List.mem_filter.mpr ⟨List.mem_of_getElem? (i := 303) (by decide +kernel), by decide +kernel⟩
theorem tw_ml_X3_31 : Cond.methodLink RX3 31 Lib.Math.max.name ∈ TW := List.mem_filter.mpr ⟨List.mem_of_getElem? (i := 304) (by decide +kernel), by decide +kernel⟩
theorem tw_sta_Math_max : Cond.static Lib.Math.max.name ∈ TW := List.mem_filter.mpr ⟨List.mem_of_getElem? (i := 305) (by decide +kernel), by decide +kernel⟩
theorem tw_cod_Math_max : Cond.code Lib.Math.max.name Lib.Math.max.code 2 (some .int) ∈ TW := List.mem_filter.mpr ⟨List.mem_of_getElem? (i := 306) (by decide +kernel), by decide +kernel⟩
theorem tw_ins_X3_firstJumpThatFar : Cond.instanceMethod yX3_firstJumpThatFar ∈ TW := List.mem_filter.mpr ⟨List.mem_of_getElem? (i := 309) (by decide +kernel), by decide +kernel⟩
theorem tw_cod_X3_firstJumpThatFar : Cond.code yX3_firstJumpThatFar cX3_firstJumpThatFar 3 (some .int) ∈ TW := List.mem_filter.mpr ⟨List.mem_of_getElem? (i := 310) (by decide +kernel), by decide +kernel⟩
theorem tw_ml_L_49 : Cond.methodLink RL 49 yX4_rough ∈ TW := List.mem_filter.mpr ⟨List.mem_of_getElem? (i := 311) (by decide +kernel), by decide +kernel⟩
theorem tw_ins_X4_rough : Cond.instanceMethod yX4_rough ∈ TW := List.mem_filter.mpr ⟨List.mem_of_getElem? (i := 312) (by decide +kernel), by decide +kernel⟩
theorem tw_sel_X4_rough : Cond.selects RX4 yX4_rough yX4_rough ∈ TW := List.mem_filter.mpr ⟨List.mem_of_getElem? (i := 313) (by decide +kernel), by decide +kernel⟩
theorem tw_cod_X4_rough : Cond.code yX4_rough cX4_rough 4 (some .int) ∈ TW := List.mem_filter.mpr ⟨List.mem_of_getElem? (i := 314) (by decide +kernel), by decide +kernel⟩
theorem tw_ins_X3_countJumpsBeyond : Cond.instanceMethod yX3_countJumpsBeyond ∈ TW := List.mem_filter.mpr ⟨List.mem_of_getElem? (i := 317) (by decide +kernel), by decide +kernel⟩
theorem tw_cod_X3_countJumpsBeyond : Cond.code yX3_countJumpsBeyond cX3_countJumpsBeyond 4 (some .int) ∈ TW := List.mem_filter.mpr ⟨List.mem_of_getElem? (i := 318) (by decide +kernel), by decide +kernel⟩
theorem tw_ml_L_53 : Cond.methodLink RL 53 yX4_least ∈ TW := List.mem_filter.mpr ⟨List.mem_of_getElem? (i := 319) (by decide +kernel), by decide +kernel⟩
theorem tw_ins_X4_least : Cond.instanceMethod yX4_least ∈ TW := List.mem_filter.mpr ⟨List.mem_of_getElem? (i := 320) (by decide +kernel), by decide +kernel⟩
theorem tw_sel_X4_least : Cond.selects RX4 yX4_least yX4_least ∈ TW := List.mem_filter.mpr ⟨List.mem_of_getElem? (i := 321) (by decide +kernel), by decide +kernel⟩
theorem tw_cod_X4_least : Cond.code yX4_least cX4_least 6 (some .int) ∈ TW := List.mem_filter.mpr ⟨List.mem_of_getElem? (i := 322) (by decide +kernel), by decide +kernel⟩
theorem tw_ml_X4_125 : Cond.methodLink RX4 125 yX4_seekLeast ∈ TW := List.mem_filter.mpr ⟨List.mem_of_getElem? (i := 324) (by decide +kernel), by decide +kernel⟩
theorem tw_ins_X4_seekLeast : Cond.instanceMethod yX4_seekLeast ∈ TW := List.mem_filter.mpr ⟨List.mem_of_getElem? (i := 326) (by decide +kernel), by decide +kernel⟩
theorem tw_cod_X4_seekLeast : Cond.code yX4_seekLeast cX4_seekLeast 8 (some .int) ∈ TW := List.mem_filter.mpr ⟨List.mem_of_getElem? (i := 327) (by decide +kernel), by decide +kernel⟩
theorem tw_ins_X2_stay : Cond.instanceMethod yX2_stay ∈ TW := List.mem_filter.mpr ⟨List.mem_of_getElem? (i := 330) (by decide +kernel), by decide +kernel⟩
theorem tw_cod_X2_stay : Cond.code yX2_stay cX2_stay 2 none ∈ TW := List.mem_filter.mpr ⟨List.mem_of_getElem? (i := 331) (by decide +kernel), by decide +kernel⟩
theorem tw_ins_X2_place : Cond.instanceMethod yX2_place ∈ TW := List.mem_filter.mpr ⟨List.mem_of_getElem? (i := 335) (by decide +kernel), by decide +kernel⟩
theorem tw_cod_X2_place : Cond.code yX2_place cX2_place 4 none ∈ TW := List.mem_filter.mpr ⟨List.mem_of_getElem? (i := 336) (by decide +kernel), by decide +kernel⟩
theorem tw_ml_X2_27 : Cond.methodLink RX2 27 Lib.Math.max.name ∈ TW := List.mem_filter.mpr ⟨List.mem_of_getElem? (i := 337) (by decide +kernel), by decide +kernel⟩
theorem tw_ml_X2_33 : Cond.methodLink RX2 33 Lib.Math.min.name ∈ TW := List.mem_filter.mpr ⟨List.mem_of_getElem? (i := 338) (by decide +kernel), by decide +kernel⟩
theorem tw_sta_Math_min : Cond.static Lib.Math.min.name ∈ TW := List.mem_filter.mpr ⟨List.mem_of_getElem? (i := 339) (by decide +kernel), by decide +kernel⟩
theorem tw_cod_Math_min : Cond.code Lib.Math.min.name Lib.Math.min.code 2 (some .int) ∈ TW := List.mem_filter.mpr ⟨List.mem_of_getElem? (i := 340) (by decide +kernel), by decide +kernel⟩
theorem tw_ins_X2_seek : Cond.instanceMethod yX2_seek ∈ TW := List.mem_filter.mpr ⟨List.mem_of_getElem? (i := 343) (by decide +kernel), by decide +kernel⟩
theorem tw_cod_X2_seek : Cond.code yX2_seek cX2_seek 5 (some .int) ∈ TW := List.mem_filter.mpr ⟨List.mem_of_getElem? (i := 344) (by decide +kernel), by decide +kernel⟩
theorem tw_ml_X2_43 : Cond.methodLink RX2 43 yX2_keepFewest ∈ TW := List.mem_filter.mpr ⟨List.mem_of_getElem? (i := 345) (by decide +kernel), by decide +kernel⟩
theorem tw_ins_X2_keepFewest : Cond.instanceMethod yX2_keepFewest ∈ TW := List.mem_filter.mpr ⟨List.mem_of_getElem? (i := 347) (by decide +kernel), by decide +kernel⟩
theorem tw_cod_X2_keepFewest : Cond.code yX2_keepFewest cX2_keepFewest 5 none ∈ TW := List.mem_filter.mpr ⟨List.mem_of_getElem? (i := 348) (by decide +kernel), by decide +kernel⟩
theorem tw_ml_X2_47 : Cond.methodLink RX2 47 yX2_slot ∈ TW := List.mem_filter.mpr ⟨List.mem_of_getElem? (i := 349) (by decide +kernel), by decide +kernel⟩
theorem tw_ins_X2_slot : Cond.instanceMethod yX2_slot ∈ TW := List.mem_filter.mpr ⟨List.mem_of_getElem? (i := 351) (by decide +kernel), by decide +kernel⟩
theorem tw_cod_X2_slot : Cond.code yX2_slot cX2_slot 6 (some .int) ∈ TW := List.mem_filter.mpr ⟨List.mem_of_getElem? (i := 352) (by decide +kernel), by decide +kernel⟩
theorem tw_ml_X2_54 : Cond.methodLink RX2 54 yX2_fewestFrom ∈ TW := List.mem_filter.mpr ⟨List.mem_of_getElem? (i := 353) (by decide +kernel), by decide +kernel⟩
theorem tw_ins_X2_fewestFrom : Cond.instanceMethod yX2_fewestFrom ∈ TW := List.mem_filter.mpr ⟨List.mem_of_getElem? (i := 355) (by decide +kernel), by decide +kernel⟩
theorem tw_cod_X2_fewestFrom : Cond.code yX2_fewestFrom cX2_fewestFrom 10 (some .int) ∈ TW := List.mem_filter.mpr ⟨List.mem_of_getElem? (i := 356) (by decide +kernel), by decide +kernel⟩
theorem tw_ml_X2_57 : Cond.methodLink RX2 57 yX2_jumpUnmoved ∈ TW := List.mem_filter.mpr ⟨List.mem_of_getElem? (i := 357) (by decide +kernel), by decide +kernel⟩
theorem tw_ins_X2_jumpUnmoved : Cond.instanceMethod yX2_jumpUnmoved ∈ TW := List.mem_filter.mpr ⟨List.mem_of_getElem? (i := 359) (by decide +kernel), by decide +kernel⟩
theorem tw_cod_X2_jumpUnmoved : Cond.code yX2_jumpUnmoved cX2_jumpUnmoved 5 (some .int) ∈ TW := List.mem_filter.mpr ⟨List.mem_of_getElem? (i := 360) (by decide +kernel), by decide +kernel⟩
theorem tw_ml_X2_60 : Cond.methodLink RX2 60 yX2_lastFit ∈ TW := List.mem_filter.mpr ⟨List.mem_of_getElem? (i := 361) (by decide +kernel), by decide +kernel⟩
theorem tw_ins_X2_lastFit : Cond.instanceMethod yX2_lastFit ∈ TW := List.mem_filter.mpr ⟨List.mem_of_getElem? (i := 363) (by decide +kernel), by decide +kernel⟩
theorem tw_cod_X2_lastFit : Cond.code yX2_lastFit cX2_lastFit 4 (some .int) ∈ TW := List.mem_filter.mpr ⟨List.mem_of_getElem? (i := 364) (by decide +kernel), by decide +kernel⟩
theorem tw_ml_X2_63 : Cond.methodLink RX2 63 yX2_firstFit ∈ TW := List.mem_filter.mpr ⟨List.mem_of_getElem? (i := 365) (by decide +kernel), by decide +kernel⟩
theorem tw_ins_X2_firstFit : Cond.instanceMethod yX2_firstFit ∈ TW := List.mem_filter.mpr ⟨List.mem_of_getElem? (i := 367) (by decide +kernel), by decide +kernel⟩
theorem tw_cod_X2_firstFit : Cond.code yX2_firstFit cX2_firstFit 4 (some .int) ∈ TW := List.mem_filter.mpr ⟨List.mem_of_getElem? (i := 368) (by decide +kernel), by decide +kernel⟩
theorem tw_ml_X2_66 : Cond.methodLink RX2 66 Lib.Math.abs.name ∈ TW := List.mem_filter.mpr ⟨List.mem_of_getElem? (i := 369) (by decide +kernel), by decide +kernel⟩
theorem tw_ml_X2_51 : Cond.methodLink RX2 51 yX2_firstLeading ∈ TW := List.mem_filter.mpr ⟨List.mem_of_getElem? (i := 370) (by decide +kernel), by decide +kernel⟩
theorem tw_ins_X2_firstLeading : Cond.instanceMethod yX2_firstLeading ∈ TW := List.mem_filter.mpr ⟨List.mem_of_getElem? (i := 372) (by decide +kernel), by decide +kernel⟩
theorem tw_cod_X2_firstLeading : Cond.code yX2_firstLeading cX2_firstLeading 10 (some .int) ∈ TW := List.mem_filter.mpr ⟨List.mem_of_getElem? (i := 373) (by decide +kernel), by decide +kernel⟩
theorem tw_ins_X2_moveOf : Cond.instanceMethod yX2_moveOf ∈ TW := List.mem_filter.mpr ⟨List.mem_of_getElem? (i := 376) (by decide +kernel), by decide +kernel⟩
theorem tw_cod_X2_moveOf : Cond.code yX2_moveOf cX2_moveOf 2 (some .int) ∈ TW := List.mem_filter.mpr ⟨List.mem_of_getElem? (i := 377) (by decide +kernel), by decide +kernel⟩
theorem tw_ml_L_57 : Cond.methodLink RL 57 yX4_fair ∈ TW := List.mem_filter.mpr ⟨List.mem_of_getElem? (i := 378) (by decide +kernel), by decide +kernel⟩
theorem tw_ins_X4_fair : Cond.instanceMethod yX4_fair ∈ TW := List.mem_filter.mpr ⟨List.mem_of_getElem? (i := 379) (by decide +kernel), by decide +kernel⟩
theorem tw_sel_X4_fair : Cond.selects RX4 yX4_fair yX4_fair ∈ TW := List.mem_filter.mpr ⟨List.mem_of_getElem? (i := 380) (by decide +kernel), by decide +kernel⟩
theorem tw_cod_X4_fair : Cond.code yX4_fair cX4_fair 5 (some .int) ∈ TW := List.mem_filter.mpr ⟨List.mem_of_getElem? (i := 381) (by decide +kernel), by decide +kernel⟩
theorem tw_ml_X4_131 : Cond.methodLink RX4 131 yX4_addMoves ∈ TW := List.mem_filter.mpr ⟨List.mem_of_getElem? (i := 382) (by decide +kernel), by decide +kernel⟩
theorem tw_ins_X4_addMoves : Cond.instanceMethod yX4_addMoves ∈ TW := List.mem_filter.mpr ⟨List.mem_of_getElem? (i := 384) (by decide +kernel), by decide +kernel⟩
theorem tw_cod_X4_addMoves : Cond.code yX4_addMoves cX4_addMoves 5 none ∈ TW := List.mem_filter.mpr ⟨List.mem_of_getElem? (i := 385) (by decide +kernel), by decide +kernel⟩
theorem tw_ml_L_61 : Cond.methodLink RL 61 yX4_rounds ∈ TW := List.mem_filter.mpr ⟨List.mem_of_getElem? (i := 386) (by decide +kernel), by decide +kernel⟩
theorem tw_ins_X4_rounds : Cond.instanceMethod yX4_rounds ∈ TW := List.mem_filter.mpr ⟨List.mem_of_getElem? (i := 387) (by decide +kernel), by decide +kernel⟩
theorem tw_sel_X4_rounds : Cond.selects RX4 yX4_rounds yX4_rounds ∈ TW := List.mem_filter.mpr ⟨List.mem_of_getElem? (i := 388) (by decide +kernel), by decide +kernel⟩
theorem tw_cod_X4_rounds : Cond.code yX4_rounds cX4_rounds 3 (some .int) ∈ TW := List.mem_filter.mpr ⟨List.mem_of_getElem? (i := 389) (by decide +kernel), by decide +kernel⟩
theorem tw_ml_X4_134 : Cond.methodLink RX4 134 yX4_roundChanges ∈ TW := List.mem_filter.mpr ⟨List.mem_of_getElem? (i := 390) (by decide +kernel), by decide +kernel⟩
theorem tw_ins_X4_roundChanges : Cond.instanceMethod yX4_roundChanges ∈ TW := List.mem_filter.mpr ⟨List.mem_of_getElem? (i := 392) (by decide +kernel), by decide +kernel⟩
theorem tw_cod_X4_roundChanges : Cond.code yX4_roundChanges cX4_roundChanges 3 (some .boolean) ∈ TW := List.mem_filter.mpr ⟨List.mem_of_getElem? (i := 393) (by decide +kernel), by decide +kernel⟩
theorem tw_ml_X4_214 : Cond.methodLink RX4 214 arraycopyName ∈ TW := List.mem_filter.mpr ⟨List.mem_of_getElem? (i := 394) (by decide +kernel), by decide +kernel⟩
theorem tw_sta_System_arraycopy : Cond.static arraycopyName ∈ TW := List.mem_filter.mpr ⟨List.mem_of_getElem? (i := 395) (by decide +kernel), by decide +kernel⟩
theorem tw_nat_System_arraycopy : Cond.native arraycopyName ∈ TW := List.mem_filter.mpr ⟨List.mem_of_getElem? (i := 396) (by decide +kernel), by decide +kernel⟩
theorem tw_ml_L_65 : Cond.methodLink RL 65 yX4_back ∈ TW := List.mem_filter.mpr ⟨List.mem_of_getElem? (i := 397) (by decide +kernel), by decide +kernel⟩
theorem tw_ins_X4_back : Cond.instanceMethod yX4_back ∈ TW := List.mem_filter.mpr ⟨List.mem_of_getElem? (i := 398) (by decide +kernel), by decide +kernel⟩
theorem tw_sel_X4_back : Cond.selects RX4 yX4_back yX4_back ∈ TW := List.mem_filter.mpr ⟨List.mem_of_getElem? (i := 399) (by decide +kernel), by decide +kernel⟩
theorem tw_cod_X4_back : Cond.code yX4_back cX4_back 3 (some .int) ∈ TW := List.mem_filter.mpr ⟨List.mem_of_getElem? (i := 400) (by decide +kernel), by decide +kernel⟩
theorem tw_ml_L_70 : Cond.methodLink RL 70 yX4_area ∈ TW := List.mem_filter.mpr ⟨List.mem_of_getElem? (i := 401) (by decide +kernel), by decide +kernel⟩
theorem tw_ins_X4_area : Cond.instanceMethod yX4_area ∈ TW := List.mem_filter.mpr ⟨List.mem_of_getElem? (i := 402) (by decide +kernel), by decide +kernel⟩
theorem tw_sel_X4_area : Cond.selects RX4 yX4_area yX4_area ∈ TW := List.mem_filter.mpr ⟨List.mem_of_getElem? (i := 403) (by decide +kernel), by decide +kernel⟩
theorem tw_cod_X4_area : Cond.code yX4_area cX4_area 4 (some .long) ∈ TW := List.mem_filter.mpr ⟨List.mem_of_getElem? (i := 404) (by decide +kernel), by decide +kernel⟩
theorem tw_cl_X4_141 : Cond.constantLong RX4 141 (i64 (-9223372036854775808)) ∈ TW := List.mem_filter.mpr ⟨List.mem_of_getElem? (i := 405) (by decide +kernel), by decide +kernel⟩
theorem tw_ml_X4_143 : Cond.methodLink RX4 143 yX4_areaInSixths ∈ TW := List.mem_filter.mpr ⟨List.mem_of_getElem? (i := 406) (by decide +kernel), by decide +kernel⟩
theorem tw_ins_X4_areaInSixths : Cond.instanceMethod yX4_areaInSixths ∈ TW := List.mem_filter.mpr ⟨List.mem_of_getElem? (i := 408) (by decide +kernel), by decide +kernel⟩
theorem tw_cod_X4_areaInSixths : Cond.code yX4_areaInSixths cX4_areaInSixths 4 (some .int) ∈ TW := List.mem_filter.mpr ⟨List.mem_of_getElem? (i := 409) (by decide +kernel), by decide +kernel⟩
theorem tw_ml_X4_153 : Cond.methodLink RX4 153 yX4_sumInSixths ∈ TW := List.mem_filter.mpr ⟨List.mem_of_getElem? (i := 410) (by decide +kernel), by decide +kernel⟩
theorem tw_sta_X4_sumInSixths : Cond.static yX4_sumInSixths ∈ TW := List.mem_filter.mpr ⟨List.mem_of_getElem? (i := 411) (by decide +kernel), by decide +kernel⟩
theorem tw_cod_X4_sumInSixths : Cond.code yX4_sumInSixths cX4_sumInSixths 5 (some .int) ∈ TW := List.mem_filter.mpr ⟨List.mem_of_getElem? (i := 412) (by decide +kernel), by decide +kernel⟩
theorem tw_cl_X4_146 : Cond.constantLong RX4 146 (i64 (6)) ∈ TW := List.mem_filter.mpr ⟨List.mem_of_getElem? (i := 413) (by decide +kernel), by decide +kernel⟩
theorem tw_ml_X4_148 : Cond.methodLink RX4 148 yX4_toldShare ∈ TW := List.mem_filter.mpr ⟨List.mem_of_getElem? (i := 414) (by decide +kernel), by decide +kernel⟩
theorem tw_sta_X4_toldShare : Cond.static yX4_toldShare ∈ TW := List.mem_filter.mpr ⟨List.mem_of_getElem? (i := 415) (by decide +kernel), by decide +kernel⟩
theorem tw_cod_X4_toldShare : Cond.code yX4_toldShare cX4_toldShare 7 (some .long) ∈ TW := List.mem_filter.mpr ⟨List.mem_of_getElem? (i := 416) (by decide +kernel), by decide +kernel⟩
theorem tw_ml_X4_220 : Cond.methodLink RX4 220 yX4_commonDivisor ∈ TW := List.mem_filter.mpr ⟨List.mem_of_getElem? (i := 417) (by decide +kernel), by decide +kernel⟩
theorem tw_sta_X4_commonDivisor : Cond.static yX4_commonDivisor ∈ TW := List.mem_filter.mpr ⟨List.mem_of_getElem? (i := 418) (by decide +kernel), by decide +kernel⟩
theorem tw_cod_X4_commonDivisor : Cond.code yX4_commonDivisor cX4_commonDivisor 11 (some .long) ∈ TW := List.mem_filter.mpr ⟨List.mem_of_getElem? (i := 419) (by decide +kernel), by decide +kernel⟩
theorem tw_ml_L_75 : Cond.methodLink RL 75 yX4_centre ∈ TW := List.mem_filter.mpr ⟨List.mem_of_getElem? (i := 420) (by decide +kernel), by decide +kernel⟩
theorem tw_ins_X4_centre : Cond.instanceMethod yX4_centre ∈ TW := List.mem_filter.mpr ⟨List.mem_of_getElem? (i := 421) (by decide +kernel), by decide +kernel⟩
theorem tw_sel_X4_centre : Cond.selects RX4 yX4_centre yX4_centre ∈ TW := List.mem_filter.mpr ⟨List.mem_of_getElem? (i := 422) (by decide +kernel), by decide +kernel⟩
theorem tw_cod_X4_centre : Cond.code yX4_centre cX4_centre 6 (some .long) ∈ TW := List.mem_filter.mpr ⟨List.mem_of_getElem? (i := 423) (by decide +kernel), by decide +kernel⟩
theorem tw_ml_L_79 : Cond.methodLink RL 79 yX4_volume ∈ TW := List.mem_filter.mpr ⟨List.mem_of_getElem? (i := 424) (by decide +kernel), by decide +kernel⟩
theorem tw_ins_X4_volume : Cond.instanceMethod yX4_volume ∈ TW := List.mem_filter.mpr ⟨List.mem_of_getElem? (i := 425) (by decide +kernel), by decide +kernel⟩
theorem tw_sel_X4_volume : Cond.selects RX4 yX4_volume yX4_volume ∈ TW := List.mem_filter.mpr ⟨List.mem_of_getElem? (i := 426) (by decide +kernel), by decide +kernel⟩
theorem tw_cod_X4_volume : Cond.code yX4_volume cX4_volume 6 (some .long) ∈ TW := List.mem_filter.mpr ⟨List.mem_of_getElem? (i := 427) (by decide +kernel), by decide +kernel⟩
theorem tw_cl_X4_157 : Cond.constantLong RX4 157 (i64 (36)) ∈ TW := List.mem_filter.mpr ⟨List.mem_of_getElem? (i := 428) (by decide +kernel), by decide +kernel⟩
theorem tw_ml_L_84 : Cond.methodLink RL 84 yX4_height ∈ TW := List.mem_filter.mpr ⟨List.mem_of_getElem? (i := 429) (by decide +kernel), by decide +kernel⟩
theorem tw_ins_X4_height : Cond.instanceMethod yX4_height ∈ TW := List.mem_filter.mpr ⟨List.mem_of_getElem? (i := 430) (by decide +kernel), by decide +kernel⟩
theorem tw_sel_X4_height : Cond.selects RX4 yX4_height yX4_height ∈ TW := List.mem_filter.mpr ⟨List.mem_of_getElem? (i := 431) (by decide +kernel), by decide +kernel⟩
theorem tw_cod_X4_height : Cond.code yX4_height cX4_height 4 (some .long) ∈ TW := List.mem_filter.mpr ⟨List.mem_of_getElem? (i := 432) (by decide +kernel), by decide +kernel⟩
theorem tw_ins_X1_measure : Cond.instanceMethod yX1_measure ∈ TW := List.mem_filter.mpr ⟨List.mem_of_getElem? (i := 435) (by decide +kernel), by decide +kernel⟩
theorem tw_cod_X1_measure : Cond.code yX1_measure cX1_measure 6 none ∈ TW := List.mem_filter.mpr ⟨List.mem_of_getElem? (i := 436) (by decide +kernel), by decide +kernel⟩
theorem tw_ins_X1_isThere : Cond.instanceMethod yX1_isThere ∈ TW := List.mem_filter.mpr ⟨List.mem_of_getElem? (i := 440) (by decide +kernel), by decide +kernel⟩
theorem tw_cod_X1_isThere : Cond.code yX1_isThere cX1_isThere 2 (some .boolean) ∈ TW := List.mem_filter.mpr ⟨List.mem_of_getElem? (i := 441) (by decide +kernel), by decide +kernel⟩
theorem tw_ml_L_88 : Cond.methodLink RL 88 yX4_breaks ∈ TW := List.mem_filter.mpr ⟨List.mem_of_getElem? (i := 442) (by decide +kernel), by decide +kernel⟩
theorem tw_ins_X4_breaks : Cond.instanceMethod yX4_breaks ∈ TW := List.mem_filter.mpr ⟨List.mem_of_getElem? (i := 443) (by decide +kernel), by decide +kernel⟩
theorem tw_sel_X4_breaks : Cond.selects RX4 yX4_breaks yX4_breaks ∈ TW := List.mem_filter.mpr ⟨List.mem_of_getElem? (i := 444) (by decide +kernel), by decide +kernel⟩
theorem tw_cod_X4_breaks : Cond.code yX4_breaks cX4_breaks 2 (some .int) ∈ TW := List.mem_filter.mpr ⟨List.mem_of_getElem? (i := 445) (by decide +kernel), by decide +kernel⟩
theorem tw_ins_X1_countBreaks : Cond.instanceMethod yX1_countBreaks ∈ TW := List.mem_filter.mpr ⟨List.mem_of_getElem? (i := 448) (by decide +kernel), by decide +kernel⟩
theorem tw_cod_X1_countBreaks : Cond.code yX1_countBreaks cX1_countBreaks 6 (some .int) ∈ TW := List.mem_filter.mpr ⟨List.mem_of_getElem? (i := 449) (by decide +kernel), by decide +kernel⟩
theorem tw_ml_X1_35 : Cond.methodLink RX1 35 yX1_measure ∈ TW := List.mem_filter.mpr ⟨List.mem_of_getElem? (i := 450) (by decide +kernel), by decide +kernel⟩
theorem tw_ml_X1_39 : Cond.methodLink RX1 39 yX1_isBreak ∈ TW := List.mem_filter.mpr ⟨List.mem_of_getElem? (i := 451) (by decide +kernel), by decide +kernel⟩
theorem tw_ins_X1_isBreak : Cond.instanceMethod yX1_isBreak ∈ TW := List.mem_filter.mpr ⟨List.mem_of_getElem? (i := 453) (by decide +kernel), by decide +kernel⟩
theorem tw_cod_X1_isBreak : Cond.code yX1_isBreak cX1_isBreak 11 (some .boolean) ∈ TW := List.mem_filter.mpr ⟨List.mem_of_getElem? (i := 454) (by decide +kernel), by decide +kernel⟩
theorem tw_ml_X1_43 : Cond.methodLink RX1 43 yX1_isThere ∈ TW := List.mem_filter.mpr ⟨List.mem_of_getElem? (i := 455) (by decide +kernel), by decide +kernel⟩
theorem tw_cl_X1_47 : Cond.constantLong RX1 47 (i64 (3)) ∈ TW := List.mem_filter.mpr ⟨List.mem_of_getElem? (i := 456) (by decide +kernel), by decide +kernel⟩
theorem tw_cl_X1_49 : Cond.constantLong RX1 49 (i64 (100)) ∈ TW := List.mem_filter.mpr ⟨List.mem_of_getElem? (i := 457) (by decide +kernel), by decide +kernel⟩
theorem tw_ml_X1_51 : Cond.methodLink RX1 51 Lib.MathLoose.abs_long.x ∈ TW := List.mem_filter.mpr ⟨List.mem_of_getElem? (i := 458) (by decide +kernel), by decide +kernel⟩
theorem tw_sta_Math_absL : Cond.static Lib.MathLoose.abs_long.x ∈ TW := List.mem_filter.mpr ⟨List.mem_of_getElem? (i := 459) (by decide +kernel), by decide +kernel⟩
theorem tw_cod_Math_absL : Cond.code Lib.MathLoose.abs_long.x Lib.MathLoose.abs_long.code 2 (some .long) ∈ TW := List.mem_filter.mpr ⟨List.mem_of_getElem? (i := 460) (by decide +kernel), by decide +kernel⟩
theorem tw_ml_L_92 : Cond.methodLink RL 92 yX4_worst ∈ TW := List.mem_filter.mpr ⟨List.mem_of_getElem? (i := 461) (by decide +kernel), by decide +kernel⟩
theorem tw_ins_X4_worst : Cond.instanceMethod yX4_worst ∈ TW := List.mem_filter.mpr ⟨List.mem_of_getElem? (i := 462) (by decide +kernel), by decide +kernel⟩
theorem tw_sel_X4_worst : Cond.selects RX4 yX4_worst yX4_worst ∈ TW := List.mem_filter.mpr ⟨List.mem_of_getElem? (i := 463) (by decide +kernel), by decide +kernel⟩
theorem tw_cod_X4_worst : Cond.code yX4_worst cX4_worst 6 (some .int) ∈ TW := List.mem_filter.mpr ⟨List.mem_of_getElem? (i := 464) (by decide +kernel), by decide +kernel⟩
theorem tw_ins_X0_broadest : Cond.instanceMethod yX0_broadest ∈ TW := List.mem_filter.mpr ⟨List.mem_of_getElem? (i := 467) (by decide +kernel), by decide +kernel⟩
theorem tw_cod_X0_broadest : Cond.code yX0_broadest cX0_broadest 3 (some .int) ∈ TW := List.mem_filter.mpr ⟨List.mem_of_getElem? (i := 468) (by decide +kernel), by decide +kernel⟩
theorem tw_ml_X0_55 : Cond.methodLink RX0 55 Lib.Math.max.name ∈ TW := List.mem_filter.mpr ⟨List.mem_of_getElem? (i := 469) (by decide +kernel), by decide +kernel⟩
theorem tw_ml_L_96 : Cond.methodLink RL 96 yX4_many ∈ TW := List.mem_filter.mpr ⟨List.mem_of_getElem? (i := 470) (by decide +kernel), by decide +kernel⟩
theorem tw_ins_X4_many : Cond.instanceMethod yX4_many ∈ TW := List.mem_filter.mpr ⟨List.mem_of_getElem? (i := 471) (by decide +kernel), by decide +kernel⟩
theorem tw_sel_X4_many : Cond.selects RX4 yX4_many yX4_many ∈ TW := List.mem_filter.mpr ⟨List.mem_of_getElem? (i := 472) (by decide +kernel), by decide +kernel⟩
theorem tw_cod_X4_many : Cond.code yX4_many cX4_many 2 (some .int) ∈ TW := List.mem_filter.mpr ⟨List.mem_of_getElem? (i := 473) (by decide +kernel), by decide +kernel⟩
theorem tw_ins_X0_countHeld : Cond.instanceMethod yX0_countHeld ∈ TW := List.mem_filter.mpr ⟨List.mem_of_getElem? (i := 476) (by decide +kernel), by decide +kernel⟩
theorem tw_cod_X0_countHeld : Cond.code yX0_countHeld cX0_countHeld 3 (some .int) ∈ TW := List.mem_filter.mpr ⟨List.mem_of_getElem? (i := 477) (by decide +kernel), by decide +kernel⟩
theorem tw_ml_X4_190 : Cond.methodLink RX4 190 yX4_countUnfair ∈ TW := List.mem_filter.mpr ⟨List.mem_of_getElem? (i := 478) (by decide +kernel), by decide +kernel⟩
theorem tw_ins_X4_countUnfair : Cond.instanceMethod yX4_countUnfair ∈ TW := List.mem_filter.mpr ⟨List.mem_of_getElem? (i := 480) (by decide +kernel), by decide +kernel⟩
theorem tw_cod_X4_countUnfair : Cond.code yX4_countUnfair cX4_countUnfair 4 (some .int) ∈ TW := List.mem_filter.mpr ⟨List.mem_of_getElem? (i := 481) (by decide +kernel), by decide +kernel⟩
theorem tw_ins_X0_farFromPuts : Cond.instanceMethod yX0_farFromPuts ∈ TW := List.mem_filter.mpr ⟨List.mem_of_getElem? (i := 484) (by decide +kernel), by decide +kernel⟩
theorem tw_cod_X0_farFromPuts : Cond.code yX0_farFromPuts cX0_farFromPuts 3 (some .int) ∈ TW := List.mem_filter.mpr ⟨List.mem_of_getElem? (i := 485) (by decide +kernel), by decide +kernel⟩
theorem tw_ml_X0_47 : Cond.methodLink RX0 47 yX0_movedBy ∈ TW := List.mem_filter.mpr ⟨List.mem_of_getElem? (i := 486) (by decide +kernel), by decide +kernel⟩
theorem tw_ml_X0_50 : Cond.methodLink RX0 50 Lib.Math.abs.name ∈ TW := List.mem_filter.mpr ⟨List.mem_of_getElem? (i := 487) (by decide +kernel), by decide +kernel⟩
theorem tw_kl_L_10 : Cond.classLink RL 10 RX5 ∈ TW := List.mem_filter.mpr ⟨List.mem_of_getElem? (i := 488) (by decide +kernel), by decide +kernel⟩
theorem tw_mk_X5 : Cond.instantiable RX5 22 ∈ TW := List.mem_filter.mpr ⟨List.mem_of_getElem? (i := 489) (by decide +kernel), by decide +kernel⟩
theorem tw_ml_L_12 : Cond.methodLink RL 12 yX5_init ∈ TW := List.mem_filter.mpr ⟨List.mem_of_getElem? (i := 490) (by decide +kernel), by decide +kernel⟩
theorem tw_ins_X5_init : Cond.instanceMethod yX5_init ∈ TW := List.mem_filter.mpr ⟨List.mem_of_getElem? (i := 491) (by decide +kernel), by decide +kernel⟩
theorem tw_cod_X5_init : Cond.code yX5_init cX5_init 1 none ∈ TW := List.mem_filter.mpr ⟨List.mem_of_getElem? (i := 492) (by decide +kernel), by decide +kernel⟩
theorem tw_ml_X5_1 : Cond.methodLink RX5 1 objectInit ∈ TW := List.mem_filter.mpr ⟨List.mem_of_getElem? (i := 493) (by decide +kernel), by decide +kernel⟩
theorem tw_fl_X5_61 : Cond.fieldLink RX5 61 "HullOffsetsModel" "stations" "I" ∈ TW := List.mem_filter.mpr ⟨List.mem_of_getElem? (i := 494) (by decide +kernel), by decide +kernel⟩
theorem tw_fl_X5_64 : Cond.fieldLink RX5 64 "HullOffsetsModel" "waters" "I" ∈ TW := List.mem_filter.mpr ⟨List.mem_of_getElem? (i := 495) (by decide +kernel), by decide +kernel⟩
theorem tw_fl_X5_7 : Cond.fieldLink RX5 7 "HullOffsetsModel" "bound" "I" ∈ TW := List.mem_filter.mpr ⟨List.mem_of_getElem? (i := 496) (by decide +kernel), by decide +kernel⟩
theorem tw_fl_X5_13 : Cond.fieldLink RX5 13 "HullOffsetsModel" "reach" "I" ∈ TW := List.mem_filter.mpr ⟨List.mem_of_getElem? (i := 497) (by decide +kernel), by decide +kernel⟩
theorem tw_fl_X5_16 : Cond.fieldLink RX5 16 "HullOffsetsModel" "longBy" "I" ∈ TW := List.mem_filter.mpr ⟨List.mem_of_getElem? (i := 498) (by decide +kernel), by decide +kernel⟩
theorem tw_fl_X5_19 : Cond.fieldLink RX5 19 "HullOffsetsModel" "highBy" "I" ∈ TW := List.mem_filter.mpr ⟨List.mem_of_getElem? (i := 499) (by decide +kernel), by decide +kernel⟩
theorem tw_fl_X5_22 : Cond.fieldLink RX5 22 "HullOffsetsModel" "offset" "[I" ∈ TW := List.mem_filter.mpr ⟨List.mem_of_getElem? (i := 500) (by decide +kernel), by decide +kernel⟩
theorem tw_fl_X5_26 : Cond.fieldLink RX5 26 "HullOffsetsModel" "put" "[I" ∈ TW := List.mem_filter.mpr ⟨List.mem_of_getElem? (i := 501) (by decide +kernel), by decide +kernel⟩
theorem tw_fl_X5_29 : Cond.fieldLink RX5 29 "HullOffsetsModel" "held" "[Z" ∈ TW := List.mem_filter.mpr ⟨List.mem_of_getElem? (i := 502) (by decide +kernel), by decide +kernel⟩
theorem tw_fl_X5_97 : Cond.fieldLink RX5 97 "HullOffsetsModel" "points" "I" ∈ TW := List.mem_filter.mpr ⟨List.mem_of_getElem? (i := 503) (by decide +kernel), by decide +kernel⟩
theorem tw_fl_X5_33 : Cond.fieldLink RX5 33 "HullOffsetsModel" "pointOf" "[I" ∈ TW := List.mem_filter.mpr ⟨List.mem_of_getElem? (i := 504) (by decide +kernel), by decide +kernel⟩
theorem tw_fl_X5_36 : Cond.fieldLink RX5 36 "HullOffsetsModel" "at" "[I" ∈ TW := List.mem_filter.mpr ⟨List.mem_of_getElem? (i := 505) (by decide +kernel), by decide +kernel⟩
theorem tw_fl_X5_39 : Cond.fieldLink RX5 39 "HullOffsetsModel" "need" "[I" ∈ TW := List.mem_filter.mpr ⟨List.mem_of_getElem? (i := 506) (by decide +kernel), by decide +kernel⟩
theorem tw_fl_X5_42 : Cond.fieldLink RX5 42 "HullOffsetsModel" "move" "[I" ∈ TW := List.mem_filter.mpr ⟨List.mem_of_getElem? (i := 507) (by decide +kernel), by decide +kernel⟩
theorem tw_fl_X5_142 : Cond.fieldLink RX5 142 "HullOffsetsModel" "together" "I" ∈ TW := List.mem_filter.mpr ⟨List.mem_of_getElem? (i := 508) (by decide +kernel), by decide +kernel⟩
theorem tw_fl_X5_45 : Cond.fieldLink RX5 45 "HullOffsetsModel" "before" "[I" ∈ TW := List.mem_filter.mpr ⟨List.mem_of_getElem? (i := 509) (by decide +kernel), by decide +kernel⟩
theorem tw_fl_X5_48 : Cond.fieldLink RX5 48 "HullOffsetsModel" "row" "[J" ∈ TW := List.mem_filter.mpr ⟨List.mem_of_getElem? (i := 510) (by decide +kernel), by decide +kernel⟩
theorem tw_fl_X5_52 : Cond.fieldLink RX5 52 "HullOffsetsModel" "sums" "[J" ∈ TW := List.mem_filter.mpr ⟨List.mem_of_getElem? (i := 511) (by decide +kernel), by decide +kernel⟩
theorem tw_fl_X5_195 : Cond.fieldLink RX5 195 "HullOffsetsModel" "upper" "J" ∈ TW := List.mem_filter.mpr ⟨List.mem_of_getElem? (i := 512) (by decide +kernel), by decide +kernel⟩
theorem tw_fl_X5_191 : Cond.fieldLink RX5 191 "HullOffsetsModel" "lower" "J" ∈ TW := List.mem_filter.mpr ⟨List.mem_of_getElem? (i := 513) (by decide +kernel), by decide +kernel⟩
theorem tw_fl_X5_55 : Cond.fieldLink RX5 55 "HullOffsetsModel" "uppers" "[J" ∈ TW := List.mem_filter.mpr ⟨List.mem_of_getElem? (i := 514) (by decide +kernel), by decide +kernel⟩
theorem tw_fl_X5_58 : Cond.fieldLink RX5 58 "HullOffsetsModel" "lowers" "[J" ∈ TW := List.mem_filter.mpr ⟨List.mem_of_getElem? (i := 515) (by decide +kernel), by decide +kernel⟩
theorem tw_ml_L_17 : Cond.methodLink RL 17 yX5_hull ∈ TW := List.mem_filter.mpr ⟨List.mem_of_getElem? (i := 561) (by decide +kernel), by decide +kernel⟩
theorem tw_ins_X5_hull : Cond.instanceMethod yX5_hull ∈ TW := List.mem_filter.mpr ⟨List.mem_of_getElem? (i := 562) (by decide +kernel), by decide +kernel⟩
theorem tw_sel_X5_hull : Cond.selects RX5 yX5_hull yX5_hull ∈ TW := List.mem_filter.mpr ⟨List.mem_of_getElem? (i := 563) (by decide +kernel), by decide +kernel⟩
theorem tw_cod_X5_hull : Cond.code yX5_hull cX5_hull 4 (some .int) ∈ TW := List.mem_filter.mpr ⟨List.mem_of_getElem? (i := 564) (by decide +kernel), by decide +kernel⟩
theorem tw_cl_X5_73 : Cond.constantLong RX5 73 (i64 (5)) ∈ TW := List.mem_filter.mpr ⟨List.mem_of_getElem? (i := 565) (by decide +kernel), by decide +kernel⟩
theorem tw_cl_X5_75 : Cond.constantLong RX5 75 (i64 (9)) ∈ TW := List.mem_filter.mpr ⟨List.mem_of_getElem? (i := 566) (by decide +kernel), by decide +kernel⟩
theorem tw_ml_X5_67 : Cond.methodLink RX5 67 yX5_within ∈ TW := List.mem_filter.mpr ⟨List.mem_of_getElem? (i := 567) (by decide +kernel), by decide +kernel⟩
theorem tw_sta_X5_within : Cond.static yX5_within ∈ TW := List.mem_filter.mpr ⟨List.mem_of_getElem? (i := 568) (by decide +kernel), by decide +kernel⟩
theorem tw_cod_X5_within : Cond.code yX5_within cX5_within 6 (some .boolean) ∈ TW := List.mem_filter.mpr ⟨List.mem_of_getElem? (i := 569) (by decide +kernel), by decide +kernel⟩
theorem tw_cl_X5_77 : Cond.constantLong RX5 77 (i64 (4)) ∈ TW := List.mem_filter.mpr ⟨List.mem_of_getElem? (i := 570) (by decide +kernel), by decide +kernel⟩
theorem tw_cl_X5_79 : Cond.constantLong RX5 79 (i64 (7)) ∈ TW := List.mem_filter.mpr ⟨List.mem_of_getElem? (i := 571) (by decide +kernel), by decide +kernel⟩
theorem tw_ml_L_22 : Cond.methodLink RL 22 yX5_offset ∈ TW := List.mem_filter.mpr ⟨List.mem_of_getElem? (i := 572) (by decide +kernel), by decide +kernel⟩
theorem tw_ins_X5_offset : Cond.instanceMethod yX5_offset ∈ TW := List.mem_filter.mpr ⟨List.mem_of_getElem? (i := 573) (by decide +kernel), by decide +kernel⟩
theorem tw_sel_X5_offset : Cond.selects RX5 yX5_offset yX5_offset ∈ TW := List.mem_filter.mpr ⟨List.mem_of_getElem? (i := 574) (by decide +kernel), by decide +kernel⟩
theorem tw_cod_X5_offset : Cond.code yX5_offset cX5_offset 5 (some .int) ∈ TW := List.mem_filter.mpr ⟨List.mem_of_getElem? (i := 575) (by decide +kernel), by decide +kernel⟩
theorem tw_ml_X5_81 : Cond.methodLink RX5 81 yX5_isPoint ∈ TW := List.mem_filter.mpr ⟨List.mem_of_getElem? (i := 576) (by decide +kernel), by decide +kernel⟩
theorem tw_ins_X5_isPoint : Cond.instanceMethod yX5_isPoint ∈ TW := List.mem_filter.mpr ⟨List.mem_of_getElem? (i := 578) (by decide +kernel), by decide +kernel⟩
theorem tw_cod_X5_isPoint : Cond.code yX5_isPoint cX5_isPoint 3 (some .boolean) ∈ TW := List.mem_filter.mpr ⟨List.mem_of_getElem? (i := 579) (by decide +kernel), by decide +kernel⟩
theorem tw_ml_X5_85 : Cond.methodLink RX5 85 yX5_isOffset ∈ TW := List.mem_filter.mpr ⟨List.mem_of_getElem? (i := 580) (by decide +kernel), by decide +kernel⟩
theorem tw_sta_X5_isOffset : Cond.static yX5_isOffset ∈ TW := List.mem_filter.mpr ⟨List.mem_of_getElem? (i := 581) (by decide +kernel), by decide +kernel⟩
theorem tw_cod_X5_isOffset : Cond.code yX5_isOffset cX5_isOffset 1 (some .boolean) ∈ TW := List.mem_filter.mpr ⟨List.mem_of_getElem? (i := 582) (by decide +kernel), by decide +kernel⟩
theorem tw_cl_X5_71 : Cond.constantLong RX5 71 (i64 (999)) ∈ TW := List.mem_filter.mpr ⟨List.mem_of_getElem? (i := 583) (by decide +kernel), by decide +kernel⟩
theorem tw_ml_L_27 : Cond.methodLink RL 27 yX5_hold ∈ TW := List.mem_filter.mpr ⟨List.mem_of_getElem? (i := 584) (by decide +kernel), by decide +kernel⟩
theorem tw_ins_X5_hold : Cond.instanceMethod yX5_hold ∈ TW := List.mem_filter.mpr ⟨List.mem_of_getElem? (i := 585) (by decide +kernel), by decide +kernel⟩
theorem tw_sel_X5_hold : Cond.selects RX5 yX5_hold yX5_hold ∈ TW := List.mem_filter.mpr ⟨List.mem_of_getElem? (i := 586) (by decide +kernel), by decide +kernel⟩
theorem tw_cod_X5_hold : Cond.code yX5_hold cX5_hold 5 (some .int) ∈ TW := List.mem_filter.mpr ⟨List.mem_of_getElem? (i := 587) (by decide +kernel), by decide +kernel⟩
theorem tw_ml_L_31 : Cond.methodLink RL 31 yX5_setting ∈ TW := List.mem_filter.mpr ⟨List.mem_of_getElem? (i := 588) (by decide +kernel), by decide +kernel⟩
theorem tw_ins_X5_setting : Cond.instanceMethod yX5_setting ∈ TW := List.mem_filter.mpr ⟨List.mem_of_getElem? (i := 589) (by decide +kernel), by decide +kernel⟩
theorem tw_sel_X5_setting : Cond.selects RX5 yX5_setting yX5_setting ∈ TW := List.mem_filter.mpr ⟨List.mem_of_getElem? (i := 590) (by decide +kernel), by decide +kernel⟩
theorem tw_cod_X5_setting : Cond.code yX5_setting cX5_setting 4 (some .int) ∈ TW := List.mem_filter.mpr ⟨List.mem_of_getElem? (i := 591) (by decide +kernel), by decide +kernel⟩
theorem tw_cl_X5_89 : Cond.constantLong RX5 89 (i64 (3)) ∈ TW := List.mem_filter.mpr ⟨List.mem_of_getElem? (i := 592) (by decide +kernel), by decide +kernel⟩
theorem tw_cl_X5_91 : Cond.constantLong RX5 91 (i64 (99)) ∈ TW := List.mem_filter.mpr ⟨List.mem_of_getElem? (i := 593) (by decide +kernel), by decide +kernel⟩
theorem tw_ml_L_35 : Cond.methodLink RL 35 yX5_ofPoint ∈ TW := List.mem_filter.mpr ⟨List.mem_of_getElem? (i := 594) (by decide +kernel), by decide +kernel⟩
theorem tw_ins_X5_ofPoint : Cond.instanceMethod yX5_ofPoint ∈ TW := List.mem_filter.mpr ⟨List.mem_of_getElem? (i := 595) (by decide +kernel), by decide +kernel⟩
theorem tw_sel_X5_ofPoint : Cond.selects RX5 yX5_ofPoint yX5_ofPoint ∈ TW := List.mem_filter.mpr ⟨List.mem_of_getElem? (i := 596) (by decide +kernel), by decide +kernel⟩
theorem tw_cod_X5_ofPoint : Cond.code yX5_ofPoint cX5_ofPoint 5 (some .int) ∈ TW := List.mem_filter.mpr ⟨List.mem_of_getElem? (i := 597) (by decide +kernel), by decide +kernel⟩
theorem tw_ml_L_39 : Cond.methodLink RL 39 yX5_bend ∈ TW := List.mem_filter.mpr ⟨List.mem_of_getElem? (i := 598) (by decide +kernel), by decide +kernel⟩
theorem tw_ins_X5_bend : Cond.instanceMethod yX5_bend ∈ TW := List.mem_filter.mpr ⟨List.mem_of_getElem? (i := 599) (by decide +kernel), by decide +kernel⟩
theorem tw_sel_X5_bend : Cond.selects RX5 yX5_bend yX5_bend ∈ TW := List.mem_filter.mpr ⟨List.mem_of_getElem? (i := 600) (by decide +kernel), by decide +kernel⟩
theorem tw_cod_X5_bend : Cond.code yX5_bend cX5_bend 5 (some .int) ∈ TW := List.mem_filter.mpr ⟨List.mem_of_getElem? (i := 601) (by decide +kernel), by decide +kernel⟩
theorem tw_ml_X5_113 : Cond.methodLink RX5 113 yX5_barred ∈ TW := List.mem_filter.mpr ⟨List.mem_of_getElem? (i := 602) (by decide +kernel), by decide +kernel⟩
theorem tw_ins_X5_barred : Cond.instanceMethod yX5_barred ∈ TW := List.mem_filter.mpr ⟨List.mem_of_getElem? (i := 604) (by decide +kernel), by decide +kernel⟩
theorem tw_cod_X5_barred : Cond.code yX5_barred cX5_barred 5 (some .int) ∈ TW := List.mem_filter.mpr ⟨List.mem_of_getElem? (i := 605) (by decide +kernel), by decide +kernel⟩
theorem tw_ml_X5_103 : Cond.methodLink RX5 103 yX5_isView ∈ TW := List.mem_filter.mpr ⟨List.mem_of_getElem? (i := 606) (by decide +kernel), by decide +kernel⟩
theorem tw_sta_X5_isView : Cond.static yX5_isView ∈ TW := List.mem_filter.mpr ⟨List.mem_of_getElem? (i := 607) (by decide +kernel), by decide +kernel⟩
theorem tw_cod_X5_isView : Cond.code yX5_isView cX5_isView 1 (some .boolean) ∈ TW := List.mem_filter.mpr ⟨List.mem_of_getElem? (i := 608) (by decide +kernel), by decide +kernel⟩
theorem tw_ml_X5_106 : Cond.methodLink RX5 106 yX5_isLine ∈ TW := List.mem_filter.mpr ⟨List.mem_of_getElem? (i := 609) (by decide +kernel), by decide +kernel⟩
theorem tw_ins_X5_isLine : Cond.instanceMethod yX5_isLine ∈ TW := List.mem_filter.mpr ⟨List.mem_of_getElem? (i := 611) (by decide +kernel), by decide +kernel⟩
theorem tw_cod_X5_isLine : Cond.code yX5_isLine cX5_isLine 3 (some .boolean) ∈ TW := List.mem_filter.mpr ⟨List.mem_of_getElem? (i := 612) (by decide +kernel), by decide +kernel⟩
theorem tw_ml_X5_93 : Cond.methodLink RX5 93 yX5_linesOf ∈ TW := List.mem_filter.mpr ⟨List.mem_of_getElem? (i := 613) (by decide +kernel), by decide +kernel⟩
theorem tw_ins_X5_linesOf : Cond.instanceMethod yX5_linesOf ∈ TW := List.mem_filter.mpr ⟨List.mem_of_getElem? (i := 615) (by decide +kernel), by decide +kernel⟩
theorem tw_cod_X5_linesOf : Cond.code yX5_linesOf cX5_linesOf 2 (some .int) ∈ TW := List.mem_filter.mpr ⟨List.mem_of_getElem? (i := 616) (by decide +kernel), by decide +kernel⟩
theorem tw_ml_X5_109 : Cond.methodLink RX5 109 yX5_lays ∈ TW := List.mem_filter.mpr ⟨List.mem_of_getElem? (i := 617) (by decide +kernel), by decide +kernel⟩
theorem tw_ins_X5_lays : Cond.instanceMethod yX5_lays ∈ TW := List.mem_filter.mpr ⟨List.mem_of_getElem? (i := 619) (by decide +kernel), by decide +kernel⟩
theorem tw_cod_X5_lays : Cond.code yX5_lays cX5_lays 4 none ∈ TW := List.mem_filter.mpr ⟨List.mem_of_getElem? (i := 620) (by decide +kernel), by decide +kernel⟩
theorem tw_ml_X5_100 : Cond.methodLink RX5 100 yX5_bendAt ∈ TW := List.mem_filter.mpr ⟨List.mem_of_getElem? (i := 621) (by decide +kernel), by decide +kernel⟩
theorem tw_ins_X5_bendAt : Cond.instanceMethod yX5_bendAt ∈ TW := List.mem_filter.mpr ⟨List.mem_of_getElem? (i := 623) (by decide +kernel), by decide +kernel⟩
theorem tw_cod_X5_bendAt : Cond.code yX5_bendAt cX5_bendAt 2 (some .int) ∈ TW := List.mem_filter.mpr ⟨List.mem_of_getElem? (i := 624) (by decide +kernel), by decide +kernel⟩
theorem tw_ml_L_43 : Cond.methodLink RL 43 yX5_jump ∈ TW := List.mem_filter.mpr ⟨List.mem_of_getElem? (i := 625) (by decide +kernel), by decide +kernel⟩
theorem tw_ins_X5_jump : Cond.instanceMethod yX5_jump ∈ TW := List.mem_filter.mpr ⟨List.mem_of_getElem? (i := 626) (by decide +kernel), by decide +kernel⟩
theorem tw_sel_X5_jump : Cond.selects RX5 yX5_jump yX5_jump ∈ TW := List.mem_filter.mpr ⟨List.mem_of_getElem? (i := 627) (by decide +kernel), by decide +kernel⟩
theorem tw_cod_X5_jump : Cond.code yX5_jump cX5_jump 5 (some .int) ∈ TW := List.mem_filter.mpr ⟨List.mem_of_getElem? (i := 628) (by decide +kernel), by decide +kernel⟩
theorem tw_ml_X5_117 : Cond.methodLink RX5 117 yX5_jumpAt ∈ TW := List.mem_filter.mpr ⟨List.mem_of_getElem? (i := 629) (by decide +kernel), by decide +kernel⟩
theorem tw_ins_X5_jumpAt : Cond.instanceMethod yX5_jumpAt ∈ TW := List.mem_filter.mpr ⟨List.mem_of_getElem? (i := 631) (by decide +kernel), by decide +kernel⟩
theorem tw_cod_X5_jumpAt : Cond.code yX5_jumpAt cX5_jumpAt 2 (some .int) ∈ TW := List.mem_filter.mpr ⟨List.mem_of_getElem? (i := 632) (by decide +kernel), by decide +kernel⟩
theorem tw_ml_L_48 : Cond.methodLink RL 48 yX5_roughest ∈ TW := List.mem_filter.mpr ⟨List.mem_of_getElem? (i := 633) (by decide +kernel), by decide +kernel⟩
theorem tw_ins_X5_roughest : Cond.instanceMethod yX5_roughest ∈ TW := List.mem_filter.mpr ⟨List.mem_of_getElem? (i := 634) (by decide +kernel), by decide +kernel⟩
theorem tw_sel_X5_roughest : Cond.selects RX5 yX5_roughest yX5_roughest ∈ TW := List.mem_filter.mpr ⟨List.mem_of_getElem? (i := 635) (by decide +kernel), by decide +kernel⟩
theorem tw_cod_X5_roughest : Cond.code yX5_roughest cX5_roughest 8 (some .int) ∈ TW := List.mem_filter.mpr ⟨List.mem_of_getElem? (i := 636) (by decide +kernel), by decide +kernel⟩
theorem tw_ml_X5_120 : Cond.methodLink RX5 120 yX5_far ∈ TW := List.mem_filter.mpr ⟨List.mem_of_getElem? (i := 637) (by decide +kernel), by decide +kernel⟩
theorem tw_sta_X5_far : Cond.static yX5_far ∈ TW := List.mem_filter.mpr ⟨List.mem_of_getElem? (i := 638) (by decide +kernel), by decide +kernel⟩
theorem tw_cod_X5_far : Cond.code yX5_far cX5_far 1 (some .int) ∈ TW := List.mem_filter.mpr ⟨List.mem_of_getElem? (i := 639) (by decide +kernel), by decide +kernel⟩
theorem tw_ml_L_52 : Cond.methodLink RL 52 yX5_rough ∈ TW := List.mem_filter.mpr ⟨List.mem_of_getElem? (i := 640) (by decide +kernel), by decide +kernel⟩
theorem tw_ins_X5_rough : Cond.instanceMethod yX5_rough ∈ TW := List.mem_filter.mpr ⟨List.mem_of_getElem? (i := 641) (by decide +kernel), by decide +kernel⟩
theorem tw_sel_X5_rough : Cond.selects RX5 yX5_rough yX5_rough ∈ TW := List.mem_filter.mpr ⟨List.mem_of_getElem? (i := 642) (by decide +kernel), by decide +kernel⟩
theorem tw_cod_X5_rough : Cond.code yX5_rough cX5_rough 3 (some .int) ∈ TW := List.mem_filter.mpr ⟨List.mem_of_getElem? (i := 643) (by decide +kernel), by decide +kernel⟩
theorem tw_ml_X5_123 : Cond.methodLink RX5 123 yX5_roughNow ∈ TW := List.mem_filter.mpr ⟨List.mem_of_getElem? (i := 644) (by decide +kernel), by decide +kernel⟩
theorem tw_ins_X5_roughNow : Cond.instanceMethod yX5_roughNow ∈ TW := List.mem_filter.mpr ⟨List.mem_of_getElem? (i := 646) (by decide +kernel), by decide +kernel⟩
theorem tw_cod_X5_roughNow : Cond.code yX5_roughNow cX5_roughNow 3 (some .int) ∈ TW := List.mem_filter.mpr ⟨List.mem_of_getElem? (i := 647) (by decide +kernel), by decide +kernel⟩
theorem tw_ml_L_56 : Cond.methodLink RL 56 yX5_least ∈ TW := List.mem_filter.mpr ⟨List.mem_of_getElem? (i := 648) (by decide +kernel), by decide +kernel⟩
theorem tw_ins_X5_least : Cond.instanceMethod yX5_least ∈ TW := List.mem_filter.mpr ⟨List.mem_of_getElem? (i := 649) (by decide +kernel), by decide +kernel⟩
theorem tw_sel_X5_least : Cond.selects RX5 yX5_least yX5_least ∈ TW := List.mem_filter.mpr ⟨List.mem_of_getElem? (i := 650) (by decide +kernel), by decide +kernel⟩
theorem tw_cod_X5_least : Cond.code yX5_least cX5_least 4 (some .int) ∈ TW := List.mem_filter.mpr ⟨List.mem_of_getElem? (i := 651) (by decide +kernel), by decide +kernel⟩
theorem tw_cl_X5_155 : Cond.constantLong RX5 155 (i64 (-1)) ∈ TW := List.mem_filter.mpr ⟨List.mem_of_getElem? (i := 652) (by decide +kernel), by decide +kernel⟩
theorem tw_ml_X5_157 : Cond.methodLink RX5 157 yX5_findLeast ∈ TW := List.mem_filter.mpr ⟨List.mem_of_getElem? (i := 653) (by decide +kernel), by decide +kernel⟩
theorem tw_ins_X5_findLeast : Cond.instanceMethod yX5_findLeast ∈ TW := List.mem_filter.mpr ⟨List.mem_of_getElem? (i := 655) (by decide +kernel), by decide +kernel⟩
theorem tw_cod_X5_findLeast : Cond.code yX5_findLeast cX5_findLeast 2 (some .boolean) ∈ TW := List.mem_filter.mpr ⟨List.mem_of_getElem? (i := 656) (by decide +kernel), by decide +kernel⟩
theorem tw_ml_X5_145 : Cond.methodLink RX5 145 yX5_findNeeds ∈ TW := List.mem_filter.mpr ⟨List.mem_of_getElem? (i := 657) (by decide +kernel), by decide +kernel⟩
theorem tw_ins_X5_findNeeds : Cond.instanceMethod yX5_findNeeds ∈ TW := List.mem_filter.mpr ⟨List.mem_of_getElem? (i := 659) (by decide +kernel), by decide +kernel⟩
theorem tw_cod_X5_findNeeds : Cond.code yX5_findNeeds cX5_findNeeds 7 none ∈ TW := List.mem_filter.mpr ⟨List.mem_of_getElem? (i := 660) (by decide +kernel), by decide +kernel⟩
theorem tw_ml_X5_128 : Cond.methodLink RX5 128 yX5_may ∈ TW := List.mem_filter.mpr ⟨List.mem_of_getElem? (i := 661) (by decide +kernel), by decide +kernel⟩
theorem tw_ins_X5_may : Cond.instanceMethod yX5_may ∈ TW := List.mem_filter.mpr ⟨List.mem_of_getElem? (i := 663) (by decide +kernel), by decide +kernel⟩
theorem tw_cod_X5_may : Cond.code yX5_may cX5_may 3 (some .boolean) ∈ TW := List.mem_filter.mpr ⟨List.mem_of_getElem? (i := 664) (by decide +kernel), by decide +kernel⟩
theorem tw_ci_X5_127 : Cond.constant RX5 127 (i32 (1000000)) ∈ TW := List.mem_filter.mpr ⟨List.mem_of_getElem? (i := 665) (by decide +kernel), by decide +kernel⟩
theorem tw_ml_X5_139 : Cond.methodLink RX5 139 yX5_needFrom ∈ TW := List.mem_filter.mpr ⟨List.mem_of_getElem? (i := 666) (by decide +kernel), by decide +kernel⟩
theorem tw_ins_X5_needFrom : Cond.instanceMethod yX5_needFrom ∈ TW := List.mem_filter.mpr ⟨List.mem_of_getElem? (i := 668) (by decide +kernel), by decide +kernel⟩
theorem tw_cod_X5_needFrom : Cond.code yX5_needFrom cX5_needFrom 8 (some .int) ∈ TW := List.mem_filter.mpr ⟨List.mem_of_getElem? (i := 669) (by decide +kernel), by decide +kernel⟩
theorem tw_ml_X5_131 : Cond.methodLink RX5 131 yX5_isFair ∈ TW := List.mem_filter.mpr ⟨List.mem_of_getElem? (i := 670) (by decide +kernel), by decide +kernel⟩
theorem tw_ins_X5_isFair : Cond.instanceMethod yX5_isFair ∈ TW := List.mem_filter.mpr ⟨List.mem_of_getElem? (i := 672) (by decide +kernel), by decide +kernel⟩
theorem tw_cod_X5_isFair : Cond.code yX5_isFair cX5_isFair 7 (some .boolean) ∈ TW := List.mem_filter.mpr ⟨List.mem_of_getElem? (i := 673) (by decide +kernel), by decide +kernel⟩
theorem tw_ml_X5_135 : Cond.methodLink RX5 135 yX5_triple ∈ TW := List.mem_filter.mpr ⟨List.mem_of_getElem? (i := 674) (by decide +kernel), by decide +kernel⟩
theorem tw_sta_X5_triple : Cond.static yX5_triple ∈ TW := List.mem_filter.mpr ⟨List.mem_of_getElem? (i := 675) (by decide +kernel), by decide +kernel⟩
theorem tw_cod_X5_triple : Cond.code yX5_triple cX5_triple 3 (some .int) ∈ TW := List.mem_filter.mpr ⟨List.mem_of_getElem? (i := 676) (by decide +kernel), by decide +kernel⟩
theorem tw_ml_X5_148 : Cond.methodLink RX5 148 yX5_begins ∈ TW := List.mem_filter.mpr ⟨List.mem_of_getElem? (i := 677) (by decide +kernel), by decide +kernel⟩
theorem tw_ins_X5_begins : Cond.instanceMethod yX5_begins ∈ TW := List.mem_filter.mpr ⟨List.mem_of_getElem? (i := 679) (by decide +kernel), by decide +kernel⟩
theorem tw_cod_X5_begins : Cond.code yX5_begins cX5_begins 5 (some .boolean) ∈ TW := List.mem_filter.mpr ⟨List.mem_of_getElem? (i := 680) (by decide +kernel), by decide +kernel⟩
theorem tw_ml_X5_152 : Cond.methodLink RX5 152 yX5_nextMove ∈ TW := List.mem_filter.mpr ⟨List.mem_of_getElem? (i := 681) (by decide +kernel), by decide +kernel⟩
theorem tw_ins_X5_nextMove : Cond.instanceMethod yX5_nextMove ∈ TW := List.mem_filter.mpr ⟨List.mem_of_getElem? (i := 683) (by decide +kernel), by decide +kernel⟩
theorem tw_cod_X5_nextMove : Cond.code yX5_nextMove cX5_nextMove 4 (some .int) ∈ TW := List.mem_filter.mpr ⟨List.mem_of_getElem? (i := 684) (by decide +kernel), by decide +kernel⟩
theorem tw_ml_L_60 : Cond.methodLink RL 60 yX5_fair ∈ TW := List.mem_filter.mpr ⟨List.mem_of_getElem? (i := 685) (by decide +kernel), by decide +kernel⟩
theorem tw_ins_X5_fair : Cond.instanceMethod yX5_fair ∈ TW := List.mem_filter.mpr ⟨List.mem_of_getElem? (i := 686) (by decide +kernel), by decide +kernel⟩
theorem tw_sel_X5_fair : Cond.selects RX5 yX5_fair yX5_fair ∈ TW := List.mem_filter.mpr ⟨List.mem_of_getElem? (i := 687) (by decide +kernel), by decide +kernel⟩
theorem tw_cod_X5_fair : Cond.code yX5_fair cX5_fair 3 (some .int) ∈ TW := List.mem_filter.mpr ⟨List.mem_of_getElem? (i := 688) (by decide +kernel), by decide +kernel⟩
theorem tw_ml_X5_160 : Cond.methodLink RX5 160 yX5_fairs ∈ TW := List.mem_filter.mpr ⟨List.mem_of_getElem? (i := 689) (by decide +kernel), by decide +kernel⟩
theorem tw_ins_X5_fairs : Cond.instanceMethod yX5_fairs ∈ TW := List.mem_filter.mpr ⟨List.mem_of_getElem? (i := 691) (by decide +kernel), by decide +kernel⟩
theorem tw_cod_X5_fairs : Cond.code yX5_fairs cX5_fairs 4 (some .boolean) ∈ TW := List.mem_filter.mpr ⟨List.mem_of_getElem? (i := 692) (by decide +kernel), by decide +kernel⟩
theorem tw_ml_L_64 : Cond.methodLink RL 64 yX5_rounds ∈ TW := List.mem_filter.mpr ⟨List.mem_of_getElem? (i := 693) (by decide +kernel), by decide +kernel⟩
theorem tw_ins_X5_rounds : Cond.instanceMethod yX5_rounds ∈ TW := List.mem_filter.mpr ⟨List.mem_of_getElem? (i := 694) (by decide +kernel), by decide +kernel⟩
theorem tw_sel_X5_rounds : Cond.selects RX5 yX5_rounds yX5_rounds ∈ TW := List.mem_filter.mpr ⟨List.mem_of_getElem? (i := 695) (by decide +kernel), by decide +kernel⟩
theorem tw_cod_X5_rounds : Cond.code yX5_rounds cX5_rounds 3 (some .int) ∈ TW := List.mem_filter.mpr ⟨List.mem_of_getElem? (i := 696) (by decide +kernel), by decide +kernel⟩
theorem tw_cl_X5_163 : Cond.constantLong RX5 163 (i64 (20)) ∈ TW := List.mem_filter.mpr ⟨List.mem_of_getElem? (i := 697) (by decide +kernel), by decide +kernel⟩
theorem tw_ml_X5_165 : Cond.methodLink RX5 165 yX5_round ∈ TW := List.mem_filter.mpr ⟨List.mem_of_getElem? (i := 698) (by decide +kernel), by decide +kernel⟩
theorem tw_ins_X5_round : Cond.instanceMethod yX5_round ∈ TW := List.mem_filter.mpr ⟨List.mem_of_getElem? (i := 700) (by decide +kernel), by decide +kernel⟩
theorem tw_cod_X5_round : Cond.code yX5_round cX5_round 3 (some .boolean) ∈ TW := List.mem_filter.mpr ⟨List.mem_of_getElem? (i := 701) (by decide +kernel), by decide +kernel⟩
theorem tw_ml_L_69 : Cond.methodLink RL 69 yX5_back ∈ TW := List.mem_filter.mpr ⟨List.mem_of_getElem? (i := 702) (by decide +kernel), by decide +kernel⟩
theorem tw_ins_X5_back : Cond.instanceMethod yX5_back ∈ TW := List.mem_filter.mpr ⟨List.mem_of_getElem? (i := 703) (by decide +kernel), by decide +kernel⟩
theorem tw_sel_X5_back : Cond.selects RX5 yX5_back yX5_back ∈ TW := List.mem_filter.mpr ⟨List.mem_of_getElem? (i := 704) (by decide +kernel), by decide +kernel⟩
theorem tw_cod_X5_back : Cond.code yX5_back cX5_back 3 (some .int) ∈ TW := List.mem_filter.mpr ⟨List.mem_of_getElem? (i := 705) (by decide +kernel), by decide +kernel⟩
theorem tw_ml_L_74 : Cond.methodLink RL 74 yX5_area ∈ TW := List.mem_filter.mpr ⟨List.mem_of_getElem? (i := 706) (by decide +kernel), by decide +kernel⟩
theorem tw_ins_X5_area : Cond.instanceMethod yX5_area ∈ TW := List.mem_filter.mpr ⟨List.mem_of_getElem? (i := 707) (by decide +kernel), by decide +kernel⟩
theorem tw_sel_X5_area : Cond.selects RX5 yX5_area yX5_area ∈ TW := List.mem_filter.mpr ⟨List.mem_of_getElem? (i := 708) (by decide +kernel), by decide +kernel⟩
theorem tw_cod_X5_area : Cond.code yX5_area cX5_area 4 (some .long) ∈ TW := List.mem_filter.mpr ⟨List.mem_of_getElem? (i := 709) (by decide +kernel), by decide +kernel⟩
theorem tw_ml_X5_174 : Cond.methodLink RX5 174 yX5_isWhich ∈ TW := List.mem_filter.mpr ⟨List.mem_of_getElem? (i := 710) (by decide +kernel), by decide +kernel⟩
theorem tw_sta_X5_isWhich : Cond.static yX5_isWhich ∈ TW := List.mem_filter.mpr ⟨List.mem_of_getElem? (i := 711) (by decide +kernel), by decide +kernel⟩
theorem tw_cod_X5_isWhich : Cond.code yX5_isWhich cX5_isWhich 1 (some .boolean) ∈ TW := List.mem_filter.mpr ⟨List.mem_of_getElem? (i := 712) (by decide +kernel), by decide +kernel⟩
theorem tw_cl_X5_177 : Cond.constantLong RX5 177 (i64 (-9223372036854775808)) ∈ TW := List.mem_filter.mpr ⟨List.mem_of_getElem? (i := 713) (by decide +kernel), by decide +kernel⟩
theorem tw_ml_X5_179 : Cond.methodLink RX5 179 yX5_sumOf ∈ TW := List.mem_filter.mpr ⟨List.mem_of_getElem? (i := 714) (by decide +kernel), by decide +kernel⟩
theorem tw_ins_X5_sumOf : Cond.instanceMethod yX5_sumOf ∈ TW := List.mem_filter.mpr ⟨List.mem_of_getElem? (i := 716) (by decide +kernel), by decide +kernel⟩
theorem tw_cod_X5_sumOf : Cond.code yX5_sumOf cX5_sumOf 4 (some .long) ∈ TW := List.mem_filter.mpr ⟨List.mem_of_getElem? (i := 717) (by decide +kernel), by decide +kernel⟩
theorem tw_ml_X5_170 : Cond.methodLink RX5 170 yX5_sixths ∈ TW := List.mem_filter.mpr ⟨List.mem_of_getElem? (i := 718) (by decide +kernel), by decide +kernel⟩
theorem tw_ins_X5_sixths : Cond.instanceMethod yX5_sixths ∈ TW := List.mem_filter.mpr ⟨List.mem_of_getElem? (i := 720) (by decide +kernel), by decide +kernel⟩
theorem tw_cod_X5_sixths : Cond.code yX5_sixths cX5_sixths 6 (some .long) ∈ TW := List.mem_filter.mpr ⟨List.mem_of_getElem? (i := 721) (by decide +kernel), by decide +kernel⟩
theorem tw_cl_X5_168 : Cond.constantLong RX5 168 (i64 (2)) ∈ TW := List.mem_filter.mpr ⟨List.mem_of_getElem? (i := 722) (by decide +kernel), by decide +kernel⟩
theorem tw_cl_X5_183 : Cond.constantLong RX5 183 (i64 (6)) ∈ TW := List.mem_filter.mpr ⟨List.mem_of_getElem? (i := 723) (by decide +kernel), by decide +kernel⟩
theorem tw_ml_X5_185 : Cond.methodLink RX5 185 yX5_told ∈ TW := List.mem_filter.mpr ⟨List.mem_of_getElem? (i := 724) (by decide +kernel), by decide +kernel⟩
theorem tw_sta_X5_told : Cond.static yX5_told ∈ TW := List.mem_filter.mpr ⟨List.mem_of_getElem? (i := 725) (by decide +kernel), by decide +kernel⟩
theorem tw_cod_X5_told : Cond.code yX5_told cX5_told 11 (some .long) ∈ TW := List.mem_filter.mpr ⟨List.mem_of_getElem? (i := 726) (by decide +kernel), by decide +kernel⟩
theorem tw_ml_L_78 : Cond.methodLink RL 78 yX5_centre ∈ TW := List.mem_filter.mpr ⟨List.mem_of_getElem? (i := 727) (by decide +kernel), by decide +kernel⟩
theorem tw_ins_X5_centre : Cond.instanceMethod yX5_centre ∈ TW := List.mem_filter.mpr ⟨List.mem_of_getElem? (i := 728) (by decide +kernel), by decide +kernel⟩
theorem tw_sel_X5_centre : Cond.selects RX5 yX5_centre yX5_centre ∈ TW := List.mem_filter.mpr ⟨List.mem_of_getElem? (i := 729) (by decide +kernel), by decide +kernel⟩
theorem tw_cod_X5_centre : Cond.code yX5_centre cX5_centre 7 (some .long) ∈ TW := List.mem_filter.mpr ⟨List.mem_of_getElem? (i := 730) (by decide +kernel), by decide +kernel⟩
theorem tw_ml_L_83 : Cond.methodLink RL 83 yX5_volume ∈ TW := List.mem_filter.mpr ⟨List.mem_of_getElem? (i := 731) (by decide +kernel), by decide +kernel⟩
theorem tw_ins_X5_volume : Cond.instanceMethod yX5_volume ∈ TW := List.mem_filter.mpr ⟨List.mem_of_getElem? (i := 732) (by decide +kernel), by decide +kernel⟩
theorem tw_sel_X5_volume : Cond.selects RX5 yX5_volume yX5_volume ∈ TW := List.mem_filter.mpr ⟨List.mem_of_getElem? (i := 733) (by decide +kernel), by decide +kernel⟩
theorem tw_cod_X5_volume : Cond.code yX5_volume cX5_volume 5 (some .long) ∈ TW := List.mem_filter.mpr ⟨List.mem_of_getElem? (i := 734) (by decide +kernel), by decide +kernel⟩
theorem tw_cl_X5_189 : Cond.constantLong RX5 189 (i64 (36)) ∈ TW := List.mem_filter.mpr ⟨List.mem_of_getElem? (i := 735) (by decide +kernel), by decide +kernel⟩
theorem tw_ml_L_87 : Cond.methodLink RL 87 yX5_height ∈ TW := List.mem_filter.mpr ⟨List.mem_of_getElem? (i := 736) (by decide +kernel), by decide +kernel⟩
theorem tw_ins_X5_height : Cond.instanceMethod yX5_height ∈ TW := List.mem_filter.mpr ⟨List.mem_of_getElem? (i := 737) (by decide +kernel), by decide +kernel⟩
theorem tw_sel_X5_height : Cond.selects RX5 yX5_height yX5_height ∈ TW := List.mem_filter.mpr ⟨List.mem_of_getElem? (i := 738) (by decide +kernel), by decide +kernel⟩
theorem tw_cod_X5_height : Cond.code yX5_height cX5_height 4 (some .long) ∈ TW := List.mem_filter.mpr ⟨List.mem_of_getElem? (i := 739) (by decide +kernel), by decide +kernel⟩
theorem tw_ml_X5_198 : Cond.methodLink RX5 198 yX5_isBreadth ∈ TW := List.mem_filter.mpr ⟨List.mem_of_getElem? (i := 740) (by decide +kernel), by decide +kernel⟩
theorem tw_sta_X5_isBreadth : Cond.static yX5_isBreadth ∈ TW := List.mem_filter.mpr ⟨List.mem_of_getElem? (i := 741) (by decide +kernel), by decide +kernel⟩
theorem tw_cod_X5_isBreadth : Cond.code yX5_isBreadth cX5_isBreadth 1 (some .boolean) ∈ TW := List.mem_filter.mpr ⟨List.mem_of_getElem? (i := 742) (by decide +kernel), by decide +kernel⟩
theorem tw_ml_X5_201 : Cond.methodLink RX5 201 yX5_findHeight ∈ TW := List.mem_filter.mpr ⟨List.mem_of_getElem? (i := 743) (by decide +kernel), by decide +kernel⟩
theorem tw_ins_X5_findHeight : Cond.instanceMethod yX5_findHeight ∈ TW := List.mem_filter.mpr ⟨List.mem_of_getElem? (i := 745) (by decide +kernel), by decide +kernel⟩
theorem tw_cod_X5_findHeight : Cond.code yX5_findHeight cX5_findHeight 6 (some .boolean) ∈ TW := List.mem_filter.mpr ⟨List.mem_of_getElem? (i := 746) (by decide +kernel), by decide +kernel⟩
theorem tw_ml_L_91 : Cond.methodLink RL 91 yX5_breaks ∈ TW := List.mem_filter.mpr ⟨List.mem_of_getElem? (i := 747) (by decide +kernel), by decide +kernel⟩
theorem tw_ins_X5_breaks : Cond.instanceMethod yX5_breaks ∈ TW := List.mem_filter.mpr ⟨List.mem_of_getElem? (i := 748) (by decide +kernel), by decide +kernel⟩
theorem tw_sel_X5_breaks : Cond.selects RX5 yX5_breaks yX5_breaks ∈ TW := List.mem_filter.mpr ⟨List.mem_of_getElem? (i := 749) (by decide +kernel), by decide +kernel⟩
theorem tw_cod_X5_breaks : Cond.code yX5_breaks cX5_breaks 2 (some .int) ∈ TW := List.mem_filter.mpr ⟨List.mem_of_getElem? (i := 750) (by decide +kernel), by decide +kernel⟩
theorem tw_ml_X5_211 : Cond.methodLink RX5 211 yX5_breaksAt ∈ TW := List.mem_filter.mpr ⟨List.mem_of_getElem? (i := 751) (by decide +kernel), by decide +kernel⟩
theorem tw_ins_X5_breaksAt : Cond.instanceMethod yX5_breaksAt ∈ TW := List.mem_filter.mpr ⟨List.mem_of_getElem? (i := 753) (by decide +kernel), by decide +kernel⟩
theorem tw_cod_X5_breaksAt : Cond.code yX5_breaksAt cX5_breaksAt 4 (some .int) ∈ TW := List.mem_filter.mpr ⟨List.mem_of_getElem? (i := 754) (by decide +kernel), by decide +kernel⟩
theorem tw_ml_X5_208 : Cond.methodLink RX5 208 yX5_isBreak ∈ TW := List.mem_filter.mpr ⟨List.mem_of_getElem? (i := 755) (by decide +kernel), by decide +kernel⟩
theorem tw_ins_X5_isBreak : Cond.instanceMethod yX5_isBreak ∈ TW := List.mem_filter.mpr ⟨List.mem_of_getElem? (i := 757) (by decide +kernel), by decide +kernel⟩
theorem tw_cod_X5_isBreak : Cond.code yX5_isBreak cX5_isBreak 9 (some .boolean) ∈ TW := List.mem_filter.mpr ⟨List.mem_of_getElem? (i := 758) (by decide +kernel), by decide +kernel⟩
theorem tw_cl_X5_204 : Cond.constantLong RX5 204 (i64 (-3)) ∈ TW := List.mem_filter.mpr ⟨List.mem_of_getElem? (i := 759) (by decide +kernel), by decide +kernel⟩
theorem tw_cl_X5_206 : Cond.constantLong RX5 206 (i64 (100)) ∈ TW := List.mem_filter.mpr ⟨List.mem_of_getElem? (i := 760) (by decide +kernel), by decide +kernel⟩
theorem tw_ml_L_95 : Cond.methodLink RL 95 yX5_worst ∈ TW := List.mem_filter.mpr ⟨List.mem_of_getElem? (i := 761) (by decide +kernel), by decide +kernel⟩
theorem tw_ins_X5_worst : Cond.instanceMethod yX5_worst ∈ TW := List.mem_filter.mpr ⟨List.mem_of_getElem? (i := 762) (by decide +kernel), by decide +kernel⟩
theorem tw_sel_X5_worst : Cond.selects RX5 yX5_worst yX5_worst ∈ TW := List.mem_filter.mpr ⟨List.mem_of_getElem? (i := 763) (by decide +kernel), by decide +kernel⟩
theorem tw_cod_X5_worst : Cond.code yX5_worst cX5_worst 5 (some .int) ∈ TW := List.mem_filter.mpr ⟨List.mem_of_getElem? (i := 764) (by decide +kernel), by decide +kernel⟩
theorem tw_ml_L_99 : Cond.methodLink RL 99 yX5_many ∈ TW := List.mem_filter.mpr ⟨List.mem_of_getElem? (i := 765) (by decide +kernel), by decide +kernel⟩
theorem tw_ins_X5_many : Cond.instanceMethod yX5_many ∈ TW := List.mem_filter.mpr ⟨List.mem_of_getElem? (i := 766) (by decide +kernel), by decide +kernel⟩
theorem tw_sel_X5_many : Cond.selects RX5 yX5_many yX5_many ∈ TW := List.mem_filter.mpr ⟨List.mem_of_getElem? (i := 767) (by decide +kernel), by decide +kernel⟩
theorem tw_cod_X5_many : Cond.code yX5_many cX5_many 2 (some .int) ∈ TW := List.mem_filter.mpr ⟨List.mem_of_getElem? (i := 768) (by decide +kernel), by decide +kernel⟩
theorem tw_ml_X5_214 : Cond.methodLink RX5 214 yX5_manyHeld ∈ TW := List.mem_filter.mpr ⟨List.mem_of_getElem? (i := 769) (by decide +kernel), by decide +kernel⟩
theorem tw_ins_X5_manyHeld : Cond.instanceMethod yX5_manyHeld ∈ TW := List.mem_filter.mpr ⟨List.mem_of_getElem? (i := 771) (by decide +kernel), by decide +kernel⟩
theorem tw_cod_X5_manyHeld : Cond.code yX5_manyHeld cX5_manyHeld 3 (some .int) ∈ TW := List.mem_filter.mpr ⟨List.mem_of_getElem? (i := 772) (by decide +kernel), by decide +kernel⟩
theorem tw_ml_X5_217 : Cond.methodLink RX5 217 yX5_manyRough ∈ TW := List.mem_filter.mpr ⟨List.mem_of_getElem? (i := 773) (by decide +kernel), by decide +kernel⟩
theorem tw_ins_X5_manyRough : Cond.instanceMethod yX5_manyRough ∈ TW := List.mem_filter.mpr ⟨List.mem_of_getElem? (i := 775) (by decide +kernel), by decide +kernel⟩
theorem tw_cod_X5_manyRough : Cond.code yX5_manyRough cX5_manyRough 4 (some .int) ∈ TW := List.mem_filter.mpr ⟨List.mem_of_getElem? (i := 776) (by decide +kernel), by decide +kernel⟩
theorem tw_ml_X5_220 : Cond.methodLink RX5 220 yX5_farOff ∈ TW := List.mem_filter.mpr ⟨List.mem_of_getElem? (i := 777) (by decide +kernel), by decide +kernel⟩
theorem tw_ins_X5_farOff : Cond.instanceMethod yX5_farOff ∈ TW := List.mem_filter.mpr ⟨List.mem_of_getElem? (i := 779) (by decide +kernel), by decide +kernel⟩
theorem tw_cod_X5_farOff : Cond.code yX5_farOff cX5_farOff 3 (some .int) ∈ TW := List.mem_filter.mpr ⟨List.mem_of_getElem? (i := 780) (by decide +kernel), by decide +kernel⟩
theorem in_X0 : ∀ w ∈ u_ws RX0 TX0 5, w ∈ TW := by
  intro w hw
  have e : u_ws RX0 TX0 5 = [99, 101, 103, 105, 107].filterMap (fun i => lw_tbl[i]?) := by decide +kernel
  have g : (u_ws RX0 TX0 5).all goodWord = true := by decide +kernel
  have g1 := List.all_eq_true.mp g w hw
  rw [e] at hw
  obtain ⟨i, -, hi⟩ := List.mem_filterMap.mp hw
  exact List.mem_filter.mpr ⟨List.mem_of_getElem? hi, g1⟩
theorem in_X1 : ∀ w ∈ u_ws RX1 TX1 2, w ∈ TW := by
  intro w hw
  have e : u_ws RX1 TX1 2 = [167, 169].filterMap (fun i => lw_tbl[i]?) := by decide +kernel
  have g : (u_ws RX1 TX1 2).all goodWord = true := by decide +kernel
  have g1 := List.all_eq_true.mp g w hw
  rw [e] at hw
  obtain ⟨i, -, hi⟩ := List.mem_filterMap.mp hw
  exact List.mem_filter.mpr ⟨List.mem_of_getElem? hi, g1⟩
theorem in_X2 : ∀ w ∈ u_ws RX2 TX2 7, w ∈ TW := by
  intro w hw
  have e : u_ws RX2 TX2 7 = [142, 144, 146, 148, 150, 152, 154].filterMap (fun i => lw_tbl[i]?) := by decide +kernel
  have g : (u_ws RX2 TX2 7).all goodWord = true := by decide +kernel
  have g1 := List.all_eq_true.mp g w hw
  rw [e] at hw
  obtain ⟨i, -, hi⟩ := List.mem_filterMap.mp hw
  exact List.mem_filter.mpr ⟨List.mem_of_getElem? hi, g1⟩
theorem in_X3 : ∀ w ∈ u_ws RX3 TX3 2, w ∈ TW := by
  intro w hw
  have e : u_ws RX3 TX3 2 = [124, 126].filterMap (fun i => lw_tbl[i]?) := by decide +kernel
  have g : (u_ws RX3 TX3 2).all goodWord = true := by decide +kernel
  have g1 := List.all_eq_true.mp g w hw
  rw [e] at hw
  obtain ⟨i, -, hi⟩ := List.mem_filterMap.mp hw
  exact List.mem_filter.mpr ⟨List.mem_of_getElem? hi, g1⟩
theorem in_X4 : ∀ w ∈ u_ws RX4 TX4 7, w ∈ TW := by
  intro w hw
  have e : u_ws RX4 TX4 7 = [193, 195, 197, 199, 201, 203, 205].filterMap (fun i => lw_tbl[i]?) := by decide +kernel
  have g : (u_ws RX4 TX4 7).all goodWord = true := by decide +kernel
  have g1 := List.all_eq_true.mp g w hw
  rw [e] at hw
  obtain ⟨i, -, hi⟩ := List.mem_filterMap.mp hw
  exact List.mem_filter.mpr ⟨List.mem_of_getElem? hi, g1⟩
theorem in_X5 : ∀ w ∈ u_ws RX5 TX5 22, w ∈ TW := by
  intro w hw
  have e : u_ws RX5 TX5 22 = [516, 518, 520, 522, 524, 526, 528, 530, 532, 534, 536, 538, 540, 542, 544, 546, 548, 550, 552, 554, 556, 558].filterMap (fun i => lw_tbl[i]?) := by decide +kernel
  have g : (u_ws RX5 TX5 22).all goodWord = true := by decide +kernel
  have g1 := List.all_eq_true.mp g w hw
  rw [e] at hw
  obtain ⟨i, -, hi⟩ := List.mem_filterMap.mp hw
  exact List.mem_filter.mpr ⟨List.mem_of_getElem? hi, g1⟩
def nwL : List Cond := [Cond.methodLinkNest RX4 13 yX0_init "HullOffsets", Cond.fieldLinkNest RX1 24 "HullOffsets$Grid" "offsets" "[I" "HullOffsets", Cond.fieldLinkNest RX4 86 "HullOffsets$Grid" "offsets" "[I" "HullOffsets", Cond.fieldLinkNest RX4 138 "HullOffsets$Grid" "puts" "[I" "HullOffsets", Cond.fieldLinkNest RX4 76 "HullOffsets$Grid" "held" "[Z" "HullOffsets", Cond.fieldLinkNest RX1 32 "HullOffsets$Grid" "stations" "I" "HullOffsets", Cond.fieldLinkNest RX4 159 "HullOffsets$Grid" "stations" "I" "HullOffsets", Cond.fieldLinkNest RX1 18 "HullOffsets$Grid" "lines" "I" "HullOffsets", Cond.fieldLinkNest RX4 184 "HullOffsets$Grid" "lines" "I" "HullOffsets", Cond.methodLinkNest RX4 20 yX3_init "HullOffsets", Cond.fieldLinkNest RX0 42 "HullOffsets$Line" "offsets" "[I" "HullOffsets", Cond.fieldLinkNest RX4 152 "HullOffsets$Line" "offsets" "[I" "HullOffsets", Cond.fieldLinkNest RX4 99 "HullOffsets$Line" "points" "I" "HullOffsets", Cond.fieldLinkNest RX0 37 "HullOffsets$Line" "points" "I" "HullOffsets", Cond.methodLinkNest RX4 27 yX2_init "HullOffsets", Cond.methodLinkNest RX4 34 yX1_init "HullOffsets", Cond.fieldLinkNest RX4 170 "HullOffsets$Heights" "upper" "[J" "HullOffsets", Cond.fieldLinkNest RX4 174 "HullOffsets$Heights" "lower" "[J" "HullOffsets", Cond.methodLinkNest RX4 57 yX0_renew "HullOffsets", Cond.methodLinkNest RX4 65 yX0_hasPoint "HullOffsets", Cond.methodLinkNest RX4 73 yX0_put "HullOffsets", Cond.methodLinkNest RX4 89 yX0_movedBy "HullOffsets", Cond.methodLinkNest RX4 109 yX0_linesOf "HullOffsets", Cond.methodLinkNest RX4 196 yX0_layOut "HullOffsets", Cond.methodLinkNest RX0 29 yX4_cellOf "HullOffsets", Cond.methodLinkNest RX4 103 yX3_bendAt "HullOffsets", Cond.methodLinkNest RX4 106 yX3_jumpAt "HullOffsets", Cond.methodLinkNest RX4 112 yX3_farthestJump "HullOffsets", Cond.methodLinkNest RX4 116 yX3_firstJumpThatFar "HullOffsets", Cond.methodLinkNest RX4 119 yX3_countJumpsBeyond "HullOffsets", Cond.methodLinkNest RX4 122 yX0_pointsOf "HullOffsets", Cond.methodLinkNest RX4 200 yX2_stay "HullOffsets", Cond.methodLinkNest RX4 203 yX0_cell "HullOffsets", Cond.methodLinkNest RX4 207 yX2_place "HullOffsets", Cond.methodLinkNest RX4 211 yX2_seek "HullOffsets", Cond.methodLinkNest RX4 128 yX2_moveOf "HullOffsets", Cond.methodLinkNest RX4 162 yX1_measure "HullOffsets", Cond.methodLinkNest RX1 28 yX4_cellOf "HullOffsets", Cond.methodLinkNest RX4 166 yX1_isThere "HullOffsets", Cond.methodLinkNest RX4 177 yX1_countBreaks "HullOffsets", Cond.methodLinkNest RX4 181 yX0_broadest "HullOffsets", Cond.methodLinkNest RX4 187 yX0_countHeld "HullOffsets", Cond.methodLinkNest RX4 193 yX0_farFromPuts "HullOffsets"]
theorem nwL_in : ∀ w ∈ nwL, w ∈ lw_tbl := by
  intro w hw
  have e : nwL = [82, 87, 88, 90, 92, 94, 95, 97, 98, 114, 119, 120, 122, 123, 131, 159, 164, 166, 182, 219, 226, 246, 258, 266, 278, 279, 287, 296, 307, 315, 323, 328, 332, 333, 341, 374, 433, 437, 438, 446, 465, 474, 482].filterMap (fun i => lw_tbl[i]?) := by decide +kernel
  rw [e] at hw
  obtain ⟨i, -, hi⟩ := List.mem_filterMap.mp hw
  exact List.mem_of_getElem? hi
def isNest : Cond → Bool
  | .fieldLinkNest _ _ _ _ _ _ => true
  | .methodLinkNest _ _ _ _ => true
  | _ => false
theorem nwL_kinds : ∀ w ∈ nwL, (∃ a i b n d h, w = Cond.fieldLinkNest a i b n d h) ∨ (∃ a i x h, w = Cond.methodLinkNest a i x h) := by
  intro w hw
  have g : nwL.all isNest = true := by decide +kernel
  have g1 := List.all_eq_true.mp g w hw
  cases w <;> first | (simp [isNest] at g1; done) | exact Or.inl ⟨_, _, _, _, _, _, rfl⟩ | exact Or.inr ⟨_, _, _, _, rfl⟩
theorem nw_ml_X4_13 : Cond.methodLinkNest RX4 13 yX0_init "HullOffsets" ∈ nwL := List.mem_of_getElem? (i := 0) (by decide +kernel)
theorem nw_fl_X1_24 : Cond.fieldLinkNest RX1 24 "HullOffsets$Grid" "offsets" "[I" "HullOffsets" ∈ nwL := List.mem_of_getElem? (i := 1) (by decide +kernel)
theorem nw_fl_X4_86 : Cond.fieldLinkNest RX4 86 "HullOffsets$Grid" "offsets" "[I" "HullOffsets" ∈ nwL := List.mem_of_getElem? (i := 2) (by decide +kernel)
theorem nw_fl_X4_138 : Cond.fieldLinkNest RX4 138 "HullOffsets$Grid" "puts" "[I" "HullOffsets" ∈ nwL := List.mem_of_getElem? (i := 3) (by decide +kernel)
theorem nw_fl_X4_76 : Cond.fieldLinkNest RX4 76 "HullOffsets$Grid" "held" "[Z" "HullOffsets" ∈ nwL := List.mem_of_getElem? (i := 4) (by decide +kernel)
theorem nw_fl_X1_32 : Cond.fieldLinkNest RX1 32 "HullOffsets$Grid" "stations" "I" "HullOffsets" ∈ nwL := List.mem_of_getElem? (i := 5) (by decide +kernel)
theorem nw_fl_X4_159 : Cond.fieldLinkNest RX4 159 "HullOffsets$Grid" "stations" "I" "HullOffsets" ∈ nwL := List.mem_of_getElem? (i := 6) (by decide +kernel)
theorem nw_fl_X1_18 : Cond.fieldLinkNest RX1 18 "HullOffsets$Grid" "lines" "I" "HullOffsets" ∈ nwL := List.mem_of_getElem? (i := 7) (by decide +kernel)
theorem nw_fl_X4_184 : Cond.fieldLinkNest RX4 184 "HullOffsets$Grid" "lines" "I" "HullOffsets" ∈ nwL := List.mem_of_getElem? (i := 8) (by decide +kernel)
theorem nw_ml_X4_20 : Cond.methodLinkNest RX4 20 yX3_init "HullOffsets" ∈ nwL := List.mem_of_getElem? (i := 9) (by decide +kernel)
theorem nw_fl_X0_42 : Cond.fieldLinkNest RX0 42 "HullOffsets$Line" "offsets" "[I" "HullOffsets" ∈ nwL := List.mem_of_getElem? (i := 10) (by decide +kernel)
theorem nw_fl_X4_152 : Cond.fieldLinkNest RX4 152 "HullOffsets$Line" "offsets" "[I" "HullOffsets" ∈ nwL := List.mem_of_getElem? (i := 11) (by decide +kernel)
theorem nw_fl_X4_99 : Cond.fieldLinkNest RX4 99 "HullOffsets$Line" "points" "I" "HullOffsets" ∈ nwL := List.mem_of_getElem? (i := 12) (by decide +kernel)
theorem nw_fl_X0_37 : Cond.fieldLinkNest RX0 37 "HullOffsets$Line" "points" "I" "HullOffsets" ∈ nwL := List.mem_of_getElem? (i := 13) (by decide +kernel)
theorem nw_ml_X4_27 : Cond.methodLinkNest RX4 27 yX2_init "HullOffsets" ∈ nwL := List.mem_of_getElem? (i := 14) (by decide +kernel)
theorem nw_ml_X4_34 : Cond.methodLinkNest RX4 34 yX1_init "HullOffsets" ∈ nwL := List.mem_of_getElem? (i := 15) (by decide +kernel)
theorem nw_fl_X4_170 : Cond.fieldLinkNest RX4 170 "HullOffsets$Heights" "upper" "[J" "HullOffsets" ∈ nwL := List.mem_of_getElem? (i := 16) (by decide +kernel)
theorem nw_fl_X4_174 : Cond.fieldLinkNest RX4 174 "HullOffsets$Heights" "lower" "[J" "HullOffsets" ∈ nwL := List.mem_of_getElem? (i := 17) (by decide +kernel)
theorem nw_ml_X4_57 : Cond.methodLinkNest RX4 57 yX0_renew "HullOffsets" ∈ nwL := List.mem_of_getElem? (i := 18) (by decide +kernel)
theorem nw_ml_X4_65 : Cond.methodLinkNest RX4 65 yX0_hasPoint "HullOffsets" ∈ nwL := List.mem_of_getElem? (i := 19) (by decide +kernel)
theorem nw_ml_X4_73 : Cond.methodLinkNest RX4 73 yX0_put "HullOffsets" ∈ nwL := List.mem_of_getElem? (i := 20) (by decide +kernel)
theorem nw_ml_X4_89 : Cond.methodLinkNest RX4 89 yX0_movedBy "HullOffsets" ∈ nwL := List.mem_of_getElem? (i := 21) (by decide +kernel)
theorem nw_ml_X4_109 : Cond.methodLinkNest RX4 109 yX0_linesOf "HullOffsets" ∈ nwL := List.mem_of_getElem? (i := 22) (by decide +kernel)
theorem nw_ml_X4_196 : Cond.methodLinkNest RX4 196 yX0_layOut "HullOffsets" ∈ nwL := List.mem_of_getElem? (i := 23) (by decide +kernel)
theorem nw_ml_X0_29 : Cond.methodLinkNest RX0 29 yX4_cellOf "HullOffsets" ∈ nwL := List.mem_of_getElem? (i := 24) (by decide +kernel)
theorem nw_ml_X4_103 : Cond.methodLinkNest RX4 103 yX3_bendAt "HullOffsets" ∈ nwL := List.mem_of_getElem? (i := 25) (by decide +kernel)
theorem nw_ml_X4_106 : Cond.methodLinkNest RX4 106 yX3_jumpAt "HullOffsets" ∈ nwL := List.mem_of_getElem? (i := 26) (by decide +kernel)
theorem nw_ml_X4_112 : Cond.methodLinkNest RX4 112 yX3_farthestJump "HullOffsets" ∈ nwL := List.mem_of_getElem? (i := 27) (by decide +kernel)
theorem nw_ml_X4_116 : Cond.methodLinkNest RX4 116 yX3_firstJumpThatFar "HullOffsets" ∈ nwL := List.mem_of_getElem? (i := 28) (by decide +kernel)
theorem nw_ml_X4_119 : Cond.methodLinkNest RX4 119 yX3_countJumpsBeyond "HullOffsets" ∈ nwL := List.mem_of_getElem? (i := 29) (by decide +kernel)
theorem nw_ml_X4_122 : Cond.methodLinkNest RX4 122 yX0_pointsOf "HullOffsets" ∈ nwL := List.mem_of_getElem? (i := 30) (by decide +kernel)
theorem nw_ml_X4_200 : Cond.methodLinkNest RX4 200 yX2_stay "HullOffsets" ∈ nwL := List.mem_of_getElem? (i := 31) (by decide +kernel)
theorem nw_ml_X4_203 : Cond.methodLinkNest RX4 203 yX0_cell "HullOffsets" ∈ nwL := List.mem_of_getElem? (i := 32) (by decide +kernel)
theorem nw_ml_X4_207 : Cond.methodLinkNest RX4 207 yX2_place "HullOffsets" ∈ nwL := List.mem_of_getElem? (i := 33) (by decide +kernel)
theorem nw_ml_X4_211 : Cond.methodLinkNest RX4 211 yX2_seek "HullOffsets" ∈ nwL := List.mem_of_getElem? (i := 34) (by decide +kernel)
theorem nw_ml_X4_128 : Cond.methodLinkNest RX4 128 yX2_moveOf "HullOffsets" ∈ nwL := List.mem_of_getElem? (i := 35) (by decide +kernel)
theorem nw_ml_X4_162 : Cond.methodLinkNest RX4 162 yX1_measure "HullOffsets" ∈ nwL := List.mem_of_getElem? (i := 36) (by decide +kernel)
theorem nw_ml_X1_28 : Cond.methodLinkNest RX1 28 yX4_cellOf "HullOffsets" ∈ nwL := List.mem_of_getElem? (i := 37) (by decide +kernel)
theorem nw_ml_X4_166 : Cond.methodLinkNest RX4 166 yX1_isThere "HullOffsets" ∈ nwL := List.mem_of_getElem? (i := 38) (by decide +kernel)
theorem nw_ml_X4_177 : Cond.methodLinkNest RX4 177 yX1_countBreaks "HullOffsets" ∈ nwL := List.mem_of_getElem? (i := 39) (by decide +kernel)
theorem nw_ml_X4_181 : Cond.methodLinkNest RX4 181 yX0_broadest "HullOffsets" ∈ nwL := List.mem_of_getElem? (i := 40) (by decide +kernel)
theorem nw_ml_X4_187 : Cond.methodLinkNest RX4 187 yX0_countHeld "HullOffsets" ∈ nwL := List.mem_of_getElem? (i := 41) (by decide +kernel)
theorem nw_ml_X4_193 : Cond.methodLinkNest RX4 193 yX0_farFromPuts "HullOffsets" ∈ nwL := List.mem_of_getElem? (i := 42) (by decide +kernel)
theorem tw_max_static : Cond.static Lib.Math.max.name ∈ TW := tw_sta_Math_max
theorem tw_min_static : Cond.static Lib.Math.min.name ∈ TW := tw_sta_Math_min
theorem tw_abs_static : Cond.static Lib.Math.abs.name ∈ TW := tw_sta_Math_abs
theorem tw_absL_static : Cond.static Lib.MathLoose.abs_long.x ∈ TW := tw_sta_Math_absL
theorem tw_max_code : Cond.code Lib.Math.max.name Lib.Math.max.code 2 (some .int) ∈ TW := tw_cod_Math_max
theorem tw_min_code : Cond.code Lib.Math.min.name Lib.Math.min.code 2 (some .int) ∈ TW := tw_cod_Math_min
theorem tw_abs_code : Cond.code Lib.Math.abs.name Lib.Math.abs.code 1 (some .int) ∈ TW := tw_cod_Math_abs
theorem tw_absL_code : Cond.code Lib.MathLoose.abs_long.x Lib.MathLoose.abs_long.code 2 (some .long) ∈ TW := tw_cod_Math_absL
theorem tw_math_init : Cond.initialized "java/lang/Math" ∈ TW := tw_ini_java_lang_Math
theorem tw_sys_init : Cond.initialized "java/lang/System" ∈ TW := tw_ini_java_lang_System
theorem tw_copy_static : Cond.static arraycopyName ∈ TW := tw_sta_System_arraycopy
theorem tw_copy_native : Cond.native arraycopyName ∈ TW := tw_nat_System_arraycopy
end
section
/-! THE PURE STORE: cell number → place → number. Cells 0 .. 31 are the world's (objects and arrays), numbers from 100 on are the objects' own numbers (place 0). -/
abbrev Sto : Type := Nat → Nat → Int
def up (σ : Sto) (k i : Nat) (v : Int) : Sto := fun k' i' => if k' = k then (if i' = i then v else σ k' i') else σ k' i'
abbrev Ctx : Type := va_G × (Nat → Nat) × ClassId × ClassId × ClassId × Nat × Nat
abbrev kA (K : Ctx) : Nat → Nat := K.2.1
abbrev kI (K : Ctx) : ClassId := K.2.2.1
abbrev kJ (K : Ctx) : ClassId := K.2.2.2.1
abbrev kZ (K : Ctx) : ClassId := K.2.2.2.2.1
abbrev kLow (K : Ctx) : Nat := K.2.2.2.2.2.1
abbrev kTop (K : Ctx) : Nat := K.2.2.2.2.2.2
abbrev tysK (K : Ctx) : List (ClassId × FieldType) := [(kI K, .int), (kJ K, .long), (kZ K, .boolean)]
/-- kind (0 ints, 1 longs, 2 booleans, 3 an object), length or class, an object's fields: (0, cell) a reference, (1, n) an int, (2, n) a long -/
def sh : Nat → Nat × Nat × List (Nat × Nat)
  | 0 => (3, 4, [(0, 1), (0, 2), (0, 3), (0, 4), (0, 5), (0, 6), (0, 7)])
  | 1 => (3, 0, [(0, 8), (0, 9), (0, 10), (1, 100), (1, 101)])
  | 2 => (3, 3, [(0, 11), (1, 102)])
  | 3 => (3, 2, [(0, 12), (0, 13), (0, 14), (0, 15), (0, 16), (1, 103), (1, 104)])
  | 4 => (3, 1, [(0, 17), (0, 18)])
  | 5 => (0, 4, [])
  | 6 => (0, 63, [])
  | 7 => (0, 9, [])
  | 8 => (0, 63, [])
  | 9 => (0, 63, [])
  | 10 => (2, 63, [])
  | 11 => (0, 9, [])
  | 12 => (0, 12, [])
  | 13 => (0, 12, [])
  | 14 => (0, 12, [])
  | 15 => (0, 12, [])
  | 16 => (0, 3430, [])
  | 17 => (1, 9, [])
  | 18 => (1, 9, [])
  | 19 => (3, 5, [(1, 110), (1, 111), (1, 112), (1, 113), (1, 114), (1, 115), (0, 20), (0, 21), (0, 22), (1, 116), (0, 23), (0, 24), (0, 25), (0, 26), (1, 117), (0, 27), (0, 28), (0, 29), (2, 118), (2, 119), (0, 30), (0, 31)])
  | 20 => (0, 63, [])
  | 21 => (0, 63, [])
  | 22 => (2, 63, [])
  | 23 => (0, 9, [])
  | 24 => (0, 9, [])
  | 25 => (0, 2744, [])
  | 26 => (0, 9, [])
  | 27 => (0, 63, [])
  | 28 => (1, 9, [])
  | 29 => (1, 9, [])
  | 30 => (1, 9, [])
  | 31 => (1, 9, [])
  | _ => (0, 0, [])
def fv (K : Ctx) (σ : Sto) : Nat × Nat → Value
  | (0, j) => .ref (kA K j)
  | (1, d) => .int (i32 (σ d 0))
  | (_, d) => .long (i64 (σ d 0))
def entOf (K : Ctx) (σ : Sto) (k : Nat) : Nat × Nat × List (Nat × Nat) → va_E
  | (0, n, _) => .inl (kI K, n, .inl (fun i => i32 (σ k i)))
  | (1, n, _) => .inl (kJ K, n, .inr (.inl (fun i => i64 (σ k i))))
  | (2, n, _) => .inl (kZ K, n, .inl (fun i => i32 (σ k i)))
  | (_, ci, fs) => .inr (ci, fs.map (fv K σ))
def ent (K : Ctx) (σ : Sto) (k : Nat) : va_E := entOf K σ k (sh k)
def wld (K : Ctx) (σ : Sto) : va_W := (List.range 32).map (fun k => (kA K k, ent K σ k))
def Own (K : Ctx) (q : Nat) : Prop := ∃ k : Nat, k < 32 ∧ q = kA K k
theorem wld_get (K : Ctx) (σ : Sto) {k : Nat} (h : k < 32) : (wld K σ)[k]? = some (kA K k, ent K σ k) := by
  simp [wld, List.getElem?_map, List.getElem?_range h]
theorem wld_some {K : Ctx} {σ : Sto} {k : Nat} {q : Nat × va_E} (h : (wld K σ)[k]? = some q) : k < 32 ∧ q = (kA K k, ent K σ k) := by
  have hk : k < 32 := by
    have := (List.getElem?_eq_some_iff.mp h).1
    simpa [wld] using this
  rw [wld_get K σ hk] at h
  exact ⟨hk, (Option.some.inj h).symm⟩
def Inj (K : Ctx) : Prop := ∀ i j : Nat, i < 32 → j < 32 → kA K i = kA K j → i = j
theorem wld_D {K : Ctx} {A : Nat → Prop} (hi : Inj K) (hA : ∀ q, Own K q → A q) (σ : Sto) : va_D A (wld K σ) := by
  refine ⟨fun i j p q h1 h2 he => ?_, fun k q h => ?_⟩
  · obtain ⟨l1, rfl⟩ := wld_some h1
    obtain ⟨l2, rfl⟩ := wld_some h2
    exact hi i j l1 l2 he
  · obtain ⟨l1, rfl⟩ := wld_some h
    exact hA _ ⟨k, l1, rfl⟩
theorem wld_set {K : Ctx} {σ σ' : Sto} {q0 : Nat} {e : va_E} (hq : q0 < 32) (h : ∀ k, k < 32 → k ≠ q0 → ent K σ' k = ent K σ k) (h0 : ent K σ' q0 = e) : (wld K σ).set q0 (kA K q0, e) = wld K σ' := by
  apply List.ext_getElem?
  intro k
  by_cases hk : k < 32
  · by_cases hkq : k = q0
    · subst hkq
      rw [List.getElem?_set_self (by simp [wld]; exact hk), wld_get K σ' hk, h0]
    · rw [List.getElem?_set_ne (Ne.symm hkq), wld_get K σ hk, wld_get K σ' hk, h k hk hkq]
  · rw [List.getElem?_eq_none (by simp [wld]; omega), List.getElem?_eq_none (by simp [wld]; omega)]
theorem up_self (σ : Sto) (k i : Nat) (v : Int) : up σ k i v k i = v := by simp [up]
theorem up_ne (σ : Sto) {k k' : Nat} (i : Nat) (v : Int) (h : k' ≠ k) : up σ k i v k' = σ k' := by funext j; simp [up, h]
theorem sh_ids : ∀ k, k < 32 → ∀ f ∈ (sh k).2.2, f.1 = 0 ∨ 100 ≤ f.2 := by decide +kernel
theorem fv_ne {K : Ctx} {σ : Sto} {f : Nat × Nat} {q i : Nat} {v : Int} (h : f.1 = 0 ∨ f.2 ≠ q) : fv K (up σ q i v) f = fv K σ f := by
  obtain ⟨a, d⟩ := f
  match a, h with
  | 0, _ => rfl
  | 1, h => 
    have h : d ≠ q := by simpa using h
    simp [fv, up, h]
  | a + 2, h =>
    have h : d ≠ q := by simpa using h
    simp [fv, up, h]
theorem entOf_ne {K : Ctx} {σ : Sto} {q i k : Nat} {v : Int} (S : Nat × Nat × List (Nat × Nat)) (hk : k ≠ q) (hf : ∀ f ∈ S.2.2, f.1 = 0 ∨ f.2 ≠ q) : entOf K (up σ q i v) k S = entOf K σ k S := by
  obtain ⟨a, n, fs⟩ := S
  match a with
  | 0 => simp only [entOf]; rw [up_ne σ i v hk]
  | 1 => simp only [entOf]; rw [up_ne σ i v hk]
  | 2 => simp only [entOf]; rw [up_ne σ i v hk]
  | a + 3 =>
    simp only [entOf]
    congr 2
    exact List.map_congr_left (fun f h => fv_ne (hf f h))
theorem ent_arr_ne {K : Ctx} {σ : Sto} {q i : Nat} {v : Int} (hq : q < 100) : ∀ k, k < 32 → k ≠ q → ent K (up σ q i v) k = ent K σ k := fun k hk hne =>
  entOf_ne _ hne (fun f h => (sh_ids k hk f h).imp id (fun h2 => by omega))
theorem ent_fld_ne {K : Ctx} {σ : Sto} {q d : Nat} {v : Int} (hd : 100 ≤ d) (hc : ∀ k, k < 32 → k ≠ q → ∀ f ∈ (sh k).2.2, f.1 = 0 ∨ f.2 ≠ d) : ∀ k, k < 32 → k ≠ q → ent K (up σ d 0 v) k = ent K σ k := fun k hk hne =>
  entOf_ne _ (by omega) (hc k hk hne)
/-! numbers -/
abbrev InI (a : Int) : Prop := -2147483648 ≤ a ∧ a ≤ 2147483647
abbrev InL (a : Int) : Prop := -9223372036854775808 ≤ a ∧ a ≤ 9223372036854775807
theorem i32_min : Int32.minValue.toInt = -2147483648 := by decide
theorem i32_max : Int32.maxValue.toInt = 2147483647 := by decide
theorem i64_min : Int64.minValue.toInt = -9223372036854775808 := by decide
theorem i64_max : Int64.maxValue.toInt = 9223372036854775807 := by decide
theorem i32_lt {a b : Int} (ha : InI a) (hb : InI b) : i32 a < i32 b ↔ a < b := Int32.ofInt_lt_iff_lt (by rw [i32_min]; exact ha.1) (by rw [i32_max]; exact ha.2) (by rw [i32_min]; exact hb.1) (by rw [i32_max]; exact hb.2)
theorem i32_le {a b : Int} (ha : InI a) (hb : InI b) : i32 a ≤ i32 b ↔ a ≤ b := Int32.ofInt_le_iff_le (by rw [i32_min]; exact ha.1) (by rw [i32_max]; exact ha.2) (by rw [i32_min]; exact hb.1) (by rw [i32_max]; exact hb.2)
theorem i32_toInt {a : Int} (ha : InI a) : (i32 a).toInt = a := Int32.toInt_ofInt_of_le (by have := ha.1; omega) (by have := ha.2; omega)
theorem i32_eq {a b : Int} (ha : InI a) (hb : InI b) : i32 a = i32 b ↔ a = b := ⟨fun h => by rw [← i32_toInt ha, ← i32_toInt hb, h], fun h => by rw [h]⟩
theorem i32_0 : i32 0 = 0 := rfl
theorem i64_lt {a b : Int} (ha : InL a) (hb : InL b) : i64 a < i64 b ↔ a < b := Int64.ofInt_lt_iff_lt (by rw [i64_min]; exact ha.1) (by rw [i64_max]; exact ha.2) (by rw [i64_min]; exact hb.1) (by rw [i64_max]; exact hb.2)
theorem i64_le {a b : Int} (ha : InL a) (hb : InL b) : i64 a ≤ i64 b ↔ a ≤ b := Int64.ofInt_le_iff_le (by rw [i64_min]; exact ha.1) (by rw [i64_max]; exact ha.2) (by rw [i64_min]; exact hb.1) (by rw [i64_max]; exact hb.2)
theorem i64_toInt {a : Int} (ha : InL a) : (i64 a).toInt = a := Int64.toInt_ofInt_of_le (by have := ha.1; omega) (by have := ha.2; omega)
theorem i64_eq {a b : Int} (ha : InL a) (hb : InL b) : i64 a = i64 b ↔ a = b := ⟨fun h => by rw [← i64_toInt ha, ← i64_toInt hb, h], fun h => by rw [h]⟩
theorem i32_l {a : Int} (ha : InI a) : (i32 a).toInt64 = i64 a := Int32.toInt64_ofInt (by rw [i32_min]; exact ha.1) (by rw [i32_max]; exact ha.2)
theorem i32_div {a b : Int} (ha : 0 ≤ a ∧ a ≤ 2147483647) (hb : 0 < b ∧ b ≤ 2147483647) : i32 a / i32 b = i32 (a / b) := by
  rw [← Int.tdiv_eq_ediv_of_nonneg ha.1]
  exact (Int32.ofInt_tdiv (by rw [i32_min]; omega) (by rw [i32_max]; exact ha.2) (by rw [i32_min]; omega) (by rw [i32_max]; exact hb.2)).symm
theorem i64_div {a b : Int} (ha : 0 ≤ a ∧ a ≤ 9223372036854775807) (hb : 0 < b ∧ b ≤ 9223372036854775807) : i64 a / i64 b = i64 (a / b) := by
  rw [← Int.tdiv_eq_ediv_of_nonneg ha.1]
  exact (Int64.ofInt_tdiv (by rw [i64_min]; omega) (by rw [i64_max]; exact ha.2) (by rw [i64_min]; omega) (by rw [i64_max]; exact hb.2)).symm
theorem i32_rem {a b : Int} (ha : 0 ≤ a ∧ a ≤ 2147483647) (hb : 0 < b ∧ b ≤ 2147483647) : i32 a - i32 a / i32 b * i32 b = i32 (a % b) := by
  rw [i32_div ha hb, ← Int32.ofInt_mul, ← Int32.ofInt_sub, Int.emod_def, Int.mul_comm]
theorem i64_rem {a b : Int} (ha : 0 ≤ a ∧ a ≤ 9223372036854775807) (hb : 0 < b ∧ b ≤ 9223372036854775807) : i64 a - i64 a / i64 b * i64 b = i64 (a % b) := by
  rw [i64_div ha hb, ← Int64.ofInt_mul, ← Int64.ofInt_sub, Int.emod_def, Int.mul_comm]
theorem i32_in {a : Int} {n : Nat} (h : 0 ≤ a ∧ a < n) (hn : n < 2147483648) : vp_in (i32 a) n := by
  rw [vp_in_iff, i32_toInt ⟨by omega, by omega⟩]
  exact h
theorem i32_cl {a : Int} (h : InI a) : (i32 a).toNatClampNeg = a.toNat := Int32.toNatClampNeg_ofInt_of_le (by have := h.1; omega) (by have := h.2; omega)
theorem i32_ofToInt (x : Int32) : x = i32 x.toInt := (Int32.ofInt_toInt x).symm
theorem i32_rng (x : Int32) : InI x.toInt := ⟨by have := x.le_toInt; omega, by have := x.toInt_lt; omega⟩
/-! LOCALS by their places -/
def al : Nat → List (Option Value) → List (Nat × Value)
  | _, [] => []
  | i, some v :: t => (i, v) :: al (i + 1) t
  | i, none :: t => al (i + 1) t
def lk : List (Option Value) → Nat → Option Value
  | [], _ => none
  | x :: _, 0 => x
  | _ :: t, n + 1 => lk t n
def kl : Option Value → Option Value
  | some (.long _) => none
  | some (.double _) => none
  | x => x
def stI : List (Option Value) → Nat → Value → List (Option Value)
  | [], _, _ => []
  | _ :: t, 0, v => some v :: t
  | x :: t, 1, v => kl x :: stI t 0 v
  | x :: t, n + 2, v => x :: stI t (n + 1) v
def no1 : List (Option Value) → List (Option Value)
  | [] => []
  | _ :: t => none :: t
def stL : List (Option Value) → Nat → Value → List (Option Value)
  | [], _, _ => []
  | _ :: t, 0, v => some v :: no1 t
  | x :: t, 1, v => kl x :: stL t 0 v
  | x :: t, n + 2, v => x :: stL t (n + 1) v
theorem al_lk : ∀ (L : List (Option Value)) (i j : Nat) (v : Value), lk L i = some v → (j + i, v) ∈ al j L
  | [], i, j, v, h => by simp [lk] at h
  | some w :: t, 0, j, v, h => by simp [lk] at h; simp [al, h]
  | none :: t, 0, j, v, h => by simp [lk] at h
  | some w :: t, i + 1, j, v, h => by
    have := al_lk t i (j + 1) v (by simpa [lk] using h)
    rw [al]
    exact List.mem_cons_of_mem _ (by rwa [show j + (i + 1) = j + 1 + i by omega])
  | none :: t, i + 1, j, v, h => by
    have := al_lk t i (j + 1) v (by simpa [lk] using h)
    rw [al]
    rwa [show j + (i + 1) = j + 1 + i by omega]
theorem al_ge : ∀ (L : List (Option Value)) (j : Nat) (q : Nat × Value), q ∈ al j L → j ≤ q.1
  | [], j, q, h => by simp [al] at h
  | some w :: t, j, q, h => by
    rcases List.mem_cons.mp (by simpa [al] using h) with h | h
    · simp [h]
    · have := al_ge t (j + 1) q h; omega
  | none :: t, j, q, h => by
    have := al_ge t (j + 1) q (by simpa [al] using h); omega
theorem kl_cases (x : Option Value) (v : Value) (h : kl x = some v) : x = some v ∧ v.category ≠ 2 := by
  cases x with
  | none => simp [kl] at h
  | some w => cases w <;> simp [kl] at h <;> subst h <;> simp [Value.category]
theorem al_st : ∀ (L : List (Option Value)) (i j : Nat) (v : Value) (q : Nat × Value), q ∈ al j (stI L i v) → q = (j + i, v) ∨ (q ∈ al j L ∧ q.1 ≠ j + i ∧ ¬ (q.1 + 1 = j + i ∧ q.2.category = 2))
  | [], i, j, v, q, h => by simp [stI, al] at h
  | x :: t, 0, j, v, q, h => by
    rcases List.mem_cons.mp (by simpa [stI, al] using h) with h9 | h9
    · left; simpa using h9
    · right
      have h1 := al_ge t (j + 1) q h9
      refine ⟨?_, by omega, by omega⟩
      clear h
      cases x with
      | none => simpa [al] using h9
      | some w => rw [al]; exact List.mem_cons_of_mem _ h9
  | x :: t, 1, j, v, q, h => by
    have h : q ∈ al j (kl x :: stI t 0 v) := by simpa [stI] using h
    have key : (∃ w, kl x = some w ∧ q = (j, w)) ∨ q ∈ al (j + 1) (stI t 0 v) := by
      cases hx : kl x with
      | none => rw [hx] at h; right; simpa [al] using h
      | some w => rw [hx] at h; rcases List.mem_cons.mp (by simpa [al] using h) with h | h
                  · left; exact ⟨w, rfl, h⟩
                  · right; exact h
    rcases key with ⟨w, hw, rfl⟩ | h
    · obtain ⟨hx, hc⟩ := kl_cases x w hw
      subst hx
      right
      exact ⟨by simp [al], by simp, fun hh => hc hh.2⟩
    · rcases al_st t 0 (j + 1) v q h with h | ⟨h1, h2, h3⟩
      · left; simpa using h
      · right
        have h4 := al_ge t (j + 1) q h1
        refine ⟨?_, by simpa using h2, by omega⟩
        cases x with
        | none => simpa [al] using h1
        | some w => rw [al]; exact List.mem_cons_of_mem _ h1
  | x :: t, n + 2, j, v, q, h => by
    have h : q ∈ al j (x :: stI t (n + 1) v) := by simpa [stI] using h
    have key : (∃ w, x = some w ∧ q = (j, w)) ∨ q ∈ al (j + 1) (stI t (n + 1) v) := by
      cases x with
      | none => right; simpa [al] using h
      | some w => rcases List.mem_cons.mp (by simpa [al] using h) with h | h
                  · left; exact ⟨w, rfl, h⟩
                  · right; exact h
    rcases key with ⟨w, rfl, rfl⟩ | h
    · right; exact ⟨by simp [al], by simp, by simp⟩
    · rcases al_st t (n + 1) (j + 1) v q h with h | ⟨h1, h2, h3⟩
      · left; rw [h]; congr 1; omega
      · right
        refine ⟨?_, by omega, by rw [show j + (n + 2) = j + 1 + (n + 1) by omega]; exact h3⟩
        cases x with
        | none => simpa [al] using h1
        | some w => rw [al]; exact List.mem_cons_of_mem _ h1
theorem al_no1 (L : List (Option Value)) (j : Nat) (q : Nat × Value) (h : q ∈ al j (no1 L)) : q ∈ al j L ∧ j + 1 ≤ q.1 := by
  cases L with
  | nil => simp [no1, al] at h
  | cons x t =>
    have h9 : q ∈ al (j + 1) t := by simpa [no1, al] using h
    refine ⟨?_, al_ge _ _ _ h9⟩
    clear h
    cases x with
    | none => simpa [al] using h9
    | some w => rw [al]; exact List.mem_cons_of_mem _ h9
theorem al_stL : ∀ (L : List (Option Value)) (i j : Nat) (v : Value) (q : Nat × Value), q ∈ al j (stL L i v) → q = (j + i, v) ∨ (q ∈ al j L ∧ q.1 ≠ j + i ∧ q.1 ≠ j + i + 1 ∧ ¬ (q.1 + 1 = j + i ∧ q.2.category = 2))
  | [], i, j, v, q, h => by simp [stL, al] at h
  | x :: t, 0, j, v, q, h => by
    rcases List.mem_cons.mp (by simpa [stL, al] using h) with h | h
    · left; simpa using h
    · right
      obtain ⟨h0, h1⟩ := al_no1 t (j + 1) q h
      refine ⟨?_, by omega, by omega, by omega⟩
      cases x with
      | none => simpa [al] using h0
      | some w => rw [al]; exact List.mem_cons_of_mem _ h0
  | x :: t, 1, j, v, q, h => by
    have h : q ∈ al j (kl x :: stL t 0 v) := by simpa [stL] using h
    have key : (∃ w, kl x = some w ∧ q = (j, w)) ∨ q ∈ al (j + 1) (stL t 0 v) := by
      cases hx : kl x with
      | none => rw [hx] at h; right; simpa [al] using h
      | some w => rw [hx] at h; rcases List.mem_cons.mp (by simpa [al] using h) with h | h
                  · left; exact ⟨w, rfl, h⟩
                  · right; exact h
    rcases key with ⟨w, hw, rfl⟩ | h
    · obtain ⟨hx, hc⟩ := kl_cases x w hw
      subst hx
      right
      exact ⟨by simp [al], by simp, by simp; omega, fun hh => hc hh.2⟩
    · rcases al_stL t 0 (j + 1) v q h with h | ⟨h1, h2, h3, h5⟩
      · left; simpa using h
      · right
        have h4 := al_ge t (j + 1) q h1
        refine ⟨?_, by omega, by omega, by omega⟩
        cases x with
        | none => simpa [al] using h1
        | some w => rw [al]; exact List.mem_cons_of_mem _ h1
  | x :: t, n + 2, j, v, q, h => by
    have h : q ∈ al j (x :: stL t (n + 1) v) := by simpa [stL] using h
    have key : (∃ w, x = some w ∧ q = (j, w)) ∨ q ∈ al (j + 1) (stL t (n + 1) v) := by
      cases x with
      | none => right; simpa [al] using h
      | some w => rcases List.mem_cons.mp (by simpa [al] using h) with h | h
                  · left; exact ⟨w, rfl, h⟩
                  · right; exact h
    rcases key with ⟨w, rfl, rfl⟩ | h
    · right; exact ⟨by simp [al], by simp, by simp; omega, by simp⟩
    · rcases al_stL t (n + 1) (j + 1) v q h with h | ⟨h1, h2, h3, h5⟩
      · left; rw [h]; congr 1; omega
      · right
        refine ⟨?_, by omega, by omega, by rw [show j + (n + 2) = j + 1 + (n + 1) by omega]; exact h5⟩
        cases x with
        | none => simpa [al] using h1
        | some w => rw [al]; exact List.mem_cons_of_mem _ h1
theorem lv_stI {ls : Array Slot} {nL i : Nat} {L : List (Option Value)} {v : Value} (h : lv_has ls nL ((i, v) :: (al 0 L).filter (fun q => !(q.1 == i) && !(q.1 + 1 == i && q.2.category == 2)))) : lv_has ls nL (al 0 (stI L i v)) := by
  refine ⟨h.1, h.2.1, fun q hq => h.2.2 q ?_⟩
  rcases al_st L i 0 v q hq with h1 | ⟨h1, h2, h3⟩
  · rw [h1]; simp
  · refine List.mem_cons_of_mem _ (List.mem_filter.mpr ⟨h1, ?_⟩)
    simp at h2 h3
    simp only [Bool.and_eq_true, Bool.not_eq_true', beq_eq_false_iff_ne, ne_eq, Bool.and_eq_false_iff]
    refine ⟨h2, ?_⟩
    by_cases h4 : q.1 + 1 = i
    · right; exact h3 h4
    · left; exact h4
theorem lv_stL {ls : Array Slot} {nL i : Nat} {L : List (Option Value)} {v : Value} (h : lv_has ls nL ((i, v) :: (al 0 L).filter (fun q => !(q.1 == i) && (!(q.1 == i + 1) && !(q.1 + 1 == i && q.2.category == 2))))) : lv_has ls nL (al 0 (stL L i v)) := by
  refine ⟨h.1, h.2.1, fun q hq => h.2.2 q ?_⟩
  rcases al_stL L i 0 v q hq with h1 | ⟨h1, h2, h3, h5⟩
  · rw [h1]; simp
  · refine List.mem_cons_of_mem _ (List.mem_filter.mpr ⟨h1, ?_⟩)
    simp at h2 h3 h5
    simp only [Bool.and_eq_true, Bool.not_eq_true', beq_eq_false_iff_ne, ne_eq, Bool.and_eq_false_iff]
    refine ⟨h2, h3, ?_⟩
    by_cases h4 : q.1 + 1 = i
    · right; exact h5 h4
    · left; exact h4
theorem lv_lk {ls : Array Slot} {nL i : Nat} {L : List (Option Value)} {v : Value} (h : lv_has ls nL (al 0 L)) (hk : lk L i = some v) : ls[i]? = some (.val v) := by
  have := h.2.2 (0 + i, v) (al_lk L i 0 v hk)
  simpa using this
end
section
/-! THE JUDGEMENT over the pure store -/
theorem TW_in {w : Cond} (h : w ∈ TW) : w ∈ lw_tbl := (List.mem_filter.mp h).1
theorem TW_good : GoodIn TW TW := fun w h => ⟨h, good_of_word (List.mem_filter.mp h).2⟩
abbrev MI : Type := MethodName × ByteArray × Nat × Option FieldType
abbrev wsM (Mi : MI) : List Cond := Cond.code Mi.1 Mi.2.1 Mi.2.2.1 Mi.2.2.2 :: TW
abbrev ME : Type := Program × Launch × Env × Room × State × MethodId × Array Value × List Frame × Method × Code × Nat × Nat × (State → Prop) × (Nat → Prop)
abbrev rmD (d : Nat) : Room := { frames := d, cells := 0, slots := 0, locals := 36 * d }
def StU (K : Ctx) (A : Nat → Prop) (U : State) (H : Heap) : Prop :=
  (va_Z "HullOffsets" "SETTING_LOW" "[I" (.ref (kLow K)) A U H ∧ va_T .int (kLow K) 4 (fun j => .int (i32 (if j < 2 then 0 else 1))) A U H) ∧
  (va_Z "HullOffsets" "SETTING_TOP" "[I" (.ref (kTop K)) A U H ∧ va_T .int (kTop K) 4 (fun j => .int (i32 (if j = 0 then 999 else if j = 1 then 3 else 99))) A U H)
def NwAll (U : State) : Prop := ∀ w ∈ nwL, va_Nw w U
def KU (K : Ctx) (A : Nat → Prop) (U : State) (H : Heap) : Prop := va_K K.1 vwCl (tysK K) U ∧ NwAll U ∧ StU K A U H ∧ Inj K
theorem StU.moved {K : Ctx} {A : Nat → Prop} {u U : State} {H : Heap} (hvm : u.vm.Alike U.vm) (h : StU K A u H) : StU K A U H :=
  ⟨⟨va_Z.moved hvm h.1.1, va_T.moved hvm h.1.2⟩, va_Z.moved hvm h.2.1, va_T.moved hvm h.2.2⟩
theorem StU.kept {K : Ctx} {A : Nat → Prop} {U : State} {H H1 : Heap} (h : StU K A U H) (hq : ∀ a : Nat, a < H.size → ¬ A a → H1[a]? = H[a]?) : StU K A U H1 :=
  ⟨⟨h.1.1.kept hq, h.1.2.kept hq⟩, h.2.1.kept hq, h.2.2.kept hq⟩
theorem StU.narrow {K : Ctx} {A B : Nat → Prop} {U : State} {H : Heap} (h : StU K A U H) (hAB : ∀ q, B q → A q) : StU K B U H :=
  ⟨⟨h.1.1.narrow hAB, h.1.2.narrow hAB⟩, h.2.1.narrow hAB, h.2.2.narrow hAB⟩
theorem nwL_kind : ∀ w ∈ nwL, (∃ a i b n d h, w = Cond.fieldLinkNest a i b n d h) ∨ (∃ a i x h, w = Cond.methodLinkNest a i x h) := nwL_kinds
theorem NwAll.warm {s U : State} (hW : s.WarmedH U.vm) (h : NwAll s) : NwAll U := by
  intro w hw
  have h1 := h w hw
  rcases nwL_kind w hw with ⟨a, i, b, n, d, h, rfl⟩ | ⟨a, i, x, h, rfl⟩
  · exact va_Nw.warmF hW h1
  · exact va_Nw.warmM hW h1
theorem NwAll.same {u U : State} (hv : u.vm = U.vm) (h : NwAll u) : NwAll U := by
  intro w hw
  have h1 := h w hw
  rcases nwL_kind w hw with ⟨a, i, b, n, d, h, rfl⟩ | ⟨a, i, x, h, rfl⟩
  · exact va_Nw.same rfl hv h1
  · exact va_Nw.same rfl hv h1
abbrev eP (E : ME) : Program := E.1
abbrev eL (E : ME) : Launch := E.2.1
abbrev eE (E : ME) : Env := E.2.2.1
abbrev eR (E : ME) : Room := E.2.2.2.1
abbrev eS (E : ME) : State := E.2.2.2.2.1
abbrev eM (E : ME) : MethodId := E.2.2.2.2.2.1
abbrev eG (E : ME) : Array Value := E.2.2.2.2.2.2.1
abbrev eB (E : ME) : List Frame := E.2.2.2.2.2.2.2.1
abbrev eT (E : ME) : Method := E.2.2.2.2.2.2.2.2.1
abbrev eC (E : ME) : Code := E.2.2.2.2.2.2.2.2.2.1
abbrev eX (E : ME) : Nat := E.2.2.2.2.2.2.2.2.2.2.1
abbrev eY (E : ME) : Nat := E.2.2.2.2.2.2.2.2.2.2.2.1
abbrev eQ (E : ME) : State → Prop := E.2.2.2.2.2.2.2.2.2.2.2.2.1
abbrev eA (E : ME) : Nat → Prop := E.2.2.2.2.2.2.2.2.2.2.2.2.2
abbrev WE (E : ME) (H : Heap) (locs : List Loc) (g : JFrame) : Prop := W (eP E) (eL E) (eE E) (eR E) (eS E) (eM E) (eG E) (eB E) (eT E) (eC E) H locs (eX E) (eY E) (eQ E) g
def V (K : Ctx) (E : ME) (Mi : MI) (pc : Nat) (L : List (Option Value)) (st : List Value) (σ : Sto) : Prop :=
  ∀ (H : Heap) (locs : List Loc) (ls : Array Slot), va_P K.1 vwCl (wld K σ) H → va_S (eA E) (eS E).heap H locs → lv_has ls Mi.2.2.1 (al 0 L) → WE E H locs (F0 (eM E) pc ls st)
def Ok (K : Ctx) (E : ME) (Mi : MI) (d : Nat) : Prop :=
  (eP E).tables.exec = Jvm.exec ∧ (eC E).code = Mi.2.1 ∧ (eC E).maxLocals = Mi.2.2.1 ∧ (eS E).vm.findClass Mi.1.cls = some (eM E).cls ∧ (∀ w ∈ TW, w.before (eG E) (eS E) = true) ∧ KU K (eA E) (eS E) (eS E).heap ∧
  (d ≤ (eR E).frames ∧ 36 * d ≤ (eR E).locals ∧ eX E ≤ (eR E).cells ∧ eY E ≤ (eR E).slots) ∧ ∀ q, Own K q → eA E q
section VROWS
variable {K : Ctx} {E : ME} {Mi : MI} {d pc : Nat} {L : List (Option Value)} {st : List Value} {σ : Sto}
theorem V_iconst (hE : Ok K E Mi d) {n : Int} (hd : decode Mi.2.1 pc = .ok (.iconst n, 1)) (k : V K E Mi (pc + 1) L (.int (i32 n) :: st) σ) : V K E Mi pc L st σ :=
  fun H locs ls hP hS hl => lv_iconst (v := i32 n) hE.1 hE.2.1 hd rfl (k H locs ls hP hS hl)
theorem V_bipush (hE : Ok K E Mi d) {n : Int} (hd : decode Mi.2.1 pc = .ok (.bipush n, 2)) (hv : (Int8.ofInt n).toInt32 = i32 n) (k : V K E Mi (pc + 2) L (.int (i32 n) :: st) σ) : V K E Mi pc L st σ :=
  fun H locs ls hP hS hl => lv_bipush (v := i32 n) hE.1 hE.2.1 hd hv (k H locs ls hP hS hl)
theorem V_sipush (hE : Ok K E Mi d) {n : Int} (hd : decode Mi.2.1 pc = .ok (.sipush n, 3)) (hv : (Int16.ofInt n).toInt32 = i32 n) (k : V K E Mi (pc + 3) L (.int (i32 n) :: st) σ) : V K E Mi pc L st σ :=
  fun H locs ls hP hS hl => lv_sipush (v := i32 n) hE.1 hE.2.1 hd hv (k H locs ls hP hS hl)
theorem V_iload_n (hE : Ok K E Mi d) {k : Fin 4} {x : Int32} (hd : decode Mi.2.1 pc = .ok (.iload_n k, 1)) (hL : lk L k = some (.int x)) (kk : V K E Mi (pc + 1) L (.int x :: st) σ) : V K E Mi pc L st σ :=
  fun H locs ls hP hS hl => lv_iload_n hE.1 hE.2.1 hd rfl (lv_lk hl hL) (kk H locs ls hP hS hl)
theorem V_iload (hE : Ok K E Mi d) {i : Nat} {x : Int32} (hd : decode Mi.2.1 pc = .ok (.iload i, 2)) (hL : lk L i = some (.int x)) (kk : V K E Mi (pc + 2) L (.int x :: st) σ) : V K E Mi pc L st σ :=
  fun H locs ls hP hS hl => lv_iload hE.1 hE.2.1 hd (lv_lk hl hL) (kk H locs ls hP hS hl)
theorem V_lload_n (hE : Ok K E Mi d) {k : Fin 4} {x : Int64} (hd : decode Mi.2.1 pc = .ok (.lload_n k, 1)) (hL : lk L k = some (.long x)) (kk : V K E Mi (pc + 1) L (.long x :: st) σ) : V K E Mi pc L st σ :=
  fun H locs ls hP hS hl => lv_lload_n hE.1 hE.2.1 hd rfl (lv_lk hl hL) (kk H locs ls hP hS hl)
theorem V_lload (hE : Ok K E Mi d) {i : Nat} {x : Int64} (hd : decode Mi.2.1 pc = .ok (.lload i, 2)) (hL : lk L i = some (.long x)) (kk : V K E Mi (pc + 2) L (.long x :: st) σ) : V K E Mi pc L st σ :=
  fun H locs ls hP hS hl => lv_lload hE.1 hE.2.1 hd (lv_lk hl hL) (kk H locs ls hP hS hl)
theorem V_aload_n (hE : Ok K E Mi d) {k : Fin 4} {x : Nat} (hd : decode Mi.2.1 pc = .ok (.aload_n k, 1)) (hL : lk L k = some (.ref x)) (kk : V K E Mi (pc + 1) L (.ref x :: st) σ) : V K E Mi pc L st σ :=
  fun H locs ls hP hS hl => lv_aload_n hE.1 hE.2.1 hd rfl (lv_lk hl hL) (kk H locs ls hP hS hl)
theorem V_istore_n (hE : Ok K E Mi d) {k : Fin 4} {x : Int32} (hd : decode Mi.2.1 pc = .ok (.istore_n k, 1)) (hn : Nat.blt k Mi.2.2.1 = true) (kk : V K E Mi (pc + 1) (stI L k (.int x)) st σ) : V K E Mi pc L (.int x :: st) σ :=
  fun H locs ls hP hS hl => lv_istore_n hE.1 hE.2.1 hd rfl hl (Nat.le_of_ble_eq_true hn) rfl (fun ls' hl' => kk H locs ls' hP hS (lv_stI hl'))
theorem V_istore (hE : Ok K E Mi d) {i : Nat} {x : Int32} (hd : decode Mi.2.1 pc = .ok (.istore i, 2)) (hn : Nat.blt i Mi.2.2.1 = true) (kk : V K E Mi (pc + 2) (stI L i (.int x)) st σ) : V K E Mi pc L (.int x :: st) σ :=
  fun H locs ls hP hS hl => lv_istore hE.1 hE.2.1 hd hl (Nat.le_of_ble_eq_true hn) rfl (fun ls' hl' => kk H locs ls' hP hS (lv_stI hl'))
theorem V_lstore_n (hE : Ok K E Mi d) {k : Fin 4} {x : Int64} (hd : decode Mi.2.1 pc = .ok (.lstore_n k, 1)) (hn : Nat.blt (k + 1) Mi.2.2.1 = true) (kk : V K E Mi (pc + 1) (stL L k (.long x)) st σ) : V K E Mi pc L (.long x :: st) σ :=
  fun H locs ls hP hS hl => lv_lstore_n hE.1 hE.2.1 hd rfl hl (Nat.le_of_ble_eq_true hn) rfl (fun ls' hl' => kk H locs ls' hP hS (lv_stL hl'))
theorem V_lstore (hE : Ok K E Mi d) {i : Nat} {x : Int64} (hd : decode Mi.2.1 pc = .ok (.lstore i, 2)) (hn : Nat.blt (i + 1) Mi.2.2.1 = true) (kk : V K E Mi (pc + 2) (stL L i (.long x)) st σ) : V K E Mi pc L (.long x :: st) σ :=
  fun H locs ls hP hS hl => lv_lstore hE.1 hE.2.1 hd hl (Nat.le_of_ble_eq_true hn) rfl (fun ls' hl' => kk H locs ls' hP hS (lv_stL hl'))
theorem V_iinc (hE : Ok K E Mi d) {i : Nat} {n x : Int} (hd : decode Mi.2.1 pc = .ok (.iinc i n, 3)) (hL : lk L i = some (.int (i32 x))) (hn : Nat.blt i Mi.2.2.1 = true) (kk : V K E Mi (pc + 3) (stI L i (.int (i32 (x + n)))) st σ) : V K E Mi pc L st σ := by
  intro H locs ls hP hS hl
  have hm := al_lk L i 0 _ hL
  rw [Nat.zero_add] at hm
  obtain ⟨k, hk⟩ := List.getElem?_of_mem hm
  exact lv_iinc (x := i32 x) (v := i32 (x + n)) (k := k) hE.1 hE.2.1 hd hl hk (by rw [i32, i32, Int32.ofInt_add]) (Nat.le_of_ble_eq_true hn) rfl (fun ls' hl' => kk H locs ls' hP hS (lv_stI hl'))
theorem V_iadd (hE : Ok K E Mi d) {a b : Int} (hd : decode Mi.2.1 pc = .ok (.iadd, 1)) (k : V K E Mi (pc + 1) L (.int (i32 (a + b)) :: st) σ) : V K E Mi pc L (.int (i32 b) :: .int (i32 a) :: st) σ :=
  fun H locs ls hP hS hl => lv_iadd hE.1 hE.2.1 hd (by rw [← Int32.ofInt_add]; exact k H locs ls hP hS hl)
theorem V_isub (hE : Ok K E Mi d) {a b : Int} (hd : decode Mi.2.1 pc = .ok (.isub, 1)) (k : V K E Mi (pc + 1) L (.int (i32 (a - b)) :: st) σ) : V K E Mi pc L (.int (i32 b) :: .int (i32 a) :: st) σ :=
  fun H locs ls hP hS hl => lv_isub hE.1 hE.2.1 hd (by rw [← Int32.ofInt_sub]; exact k H locs ls hP hS hl)
theorem V_imul (hE : Ok K E Mi d) {a b : Int} (hd : decode Mi.2.1 pc = .ok (.imul, 1)) (k : V K E Mi (pc + 1) L (.int (i32 (a * b)) :: st) σ) : V K E Mi pc L (.int (i32 b) :: .int (i32 a) :: st) σ :=
  fun H locs ls hP hS hl => lv_imul hE.1 hE.2.1 hd (by rw [← Int32.ofInt_mul]; exact k H locs ls hP hS hl)
theorem V_ineg (hE : Ok K E Mi d) {a : Int} (hd : decode Mi.2.1 pc = .ok (.ineg, 1)) (k : V K E Mi (pc + 1) L (.int (i32 (-a)) :: st) σ) : V K E Mi pc L (.int (i32 a) :: st) σ :=
  fun H locs ls hP hS hl => lv_ineg hE.1 hE.2.1 hd (by rw [← Int32.ofInt_neg]; exact k H locs ls hP hS hl)
theorem V_idiv (hE : Ok K E Mi d) {a b : Int} (hd : decode Mi.2.1 pc = .ok (.idiv, 1)) (ha : 0 ≤ a ∧ a ≤ 2147483647) (hb : 0 < b ∧ b ≤ 2147483647) (k : V K E Mi (pc + 1) L (.int (i32 (a / b)) :: st) σ) : V K E Mi pc L (.int (i32 b) :: .int (i32 a) :: st) σ :=
  fun H locs ls hP hS hl => lv_idiv hE.1 hE.2.1 hd (fun h => by rw [← i32_0, i32_eq ⟨by omega, by omega⟩ ⟨by omega, by omega⟩] at h; omega) (by rw [i32_div ha hb]; exact k H locs ls hP hS hl)
theorem V_irem (hE : Ok K E Mi d) {a b : Int} (hd : decode Mi.2.1 pc = .ok (.irem, 1)) (ha : 0 ≤ a ∧ a ≤ 2147483647) (hb : 0 < b ∧ b ≤ 2147483647) (k : V K E Mi (pc + 1) L (.int (i32 (a % b)) :: st) σ) : V K E Mi pc L (.int (i32 b) :: .int (i32 a) :: st) σ :=
  fun H locs ls hP hS hl => lv_irem hE.1 hE.2.1 hd (fun h => by rw [← i32_0, i32_eq ⟨by omega, by omega⟩ ⟨by omega, by omega⟩] at h; omega) (by rw [i32_rem ha hb]; exact k H locs ls hP hS hl)
theorem V_ladd (hE : Ok K E Mi d) {a b : Int} (hd : decode Mi.2.1 pc = .ok (.ladd, 1)) (k : V K E Mi (pc + 1) L (.long (i64 (a + b)) :: st) σ) : V K E Mi pc L (.long (i64 b) :: .long (i64 a) :: st) σ :=
  fun H locs ls hP hS hl => lv_ladd hE.1 hE.2.1 hd (by rw [← Int64.ofInt_add]; exact k H locs ls hP hS hl)
theorem V_lsub (hE : Ok K E Mi d) {a b : Int} (hd : decode Mi.2.1 pc = .ok (.lsub, 1)) (k : V K E Mi (pc + 1) L (.long (i64 (a - b)) :: st) σ) : V K E Mi pc L (.long (i64 b) :: .long (i64 a) :: st) σ :=
  fun H locs ls hP hS hl => lv_lsub hE.1 hE.2.1 hd (by rw [← Int64.ofInt_sub]; exact k H locs ls hP hS hl)
theorem V_lmul (hE : Ok K E Mi d) {a b : Int} (hd : decode Mi.2.1 pc = .ok (.lmul, 1)) (k : V K E Mi (pc + 1) L (.long (i64 (a * b)) :: st) σ) : V K E Mi pc L (.long (i64 b) :: .long (i64 a) :: st) σ :=
  fun H locs ls hP hS hl => lv_lmul hE.1 hE.2.1 hd (by rw [← Int64.ofInt_mul]; exact k H locs ls hP hS hl)
theorem V_lneg (hE : Ok K E Mi d) {a : Int} (hd : decode Mi.2.1 pc = .ok (.lneg, 1)) (k : V K E Mi (pc + 1) L (.long (i64 (-a)) :: st) σ) : V K E Mi pc L (.long (i64 a) :: st) σ :=
  fun H locs ls hP hS hl => lv_lneg hE.1 hE.2.1 hd (by rw [← Int64.ofInt_neg]; exact k H locs ls hP hS hl)
theorem V_ldiv (hE : Ok K E Mi d) {a b : Int} (hd : decode Mi.2.1 pc = .ok (.ldiv, 1)) (ha : 0 ≤ a ∧ a ≤ 9223372036854775807) (hb : 0 < b ∧ b ≤ 9223372036854775807) (k : V K E Mi (pc + 1) L (.long (i64 (a / b)) :: st) σ) : V K E Mi pc L (.long (i64 b) :: .long (i64 a) :: st) σ :=
  fun H locs ls hP hS hl => lv_ldiv hE.1 hE.2.1 hd (fun h => by rw [show (0 : Int64) = i64 0 from rfl, i64_eq ⟨by omega, by omega⟩ ⟨by omega, by omega⟩] at h; omega) (by rw [i64_div ha hb]; exact k H locs ls hP hS hl)
theorem V_lrem (hE : Ok K E Mi d) {a b : Int} (hd : decode Mi.2.1 pc = .ok (.lrem, 1)) (ha : 0 ≤ a ∧ a ≤ 9223372036854775807) (hb : 0 < b ∧ b ≤ 9223372036854775807) (k : V K E Mi (pc + 1) L (.long (i64 (a % b)) :: st) σ) : V K E Mi pc L (.long (i64 b) :: .long (i64 a) :: st) σ :=
  fun H locs ls hP hS hl => lv_lrem hE.1 hE.2.1 hd (fun h => by rw [show (0 : Int64) = i64 0 from rfl, i64_eq ⟨by omega, by omega⟩ ⟨by omega, by omega⟩] at h; omega) (by rw [i64_rem ha hb]; exact k H locs ls hP hS hl)
theorem V_i2l (hE : Ok K E Mi d) {a : Int} (hd : decode Mi.2.1 pc = .ok (.i2l, 1)) (ha : InI a) (k : V K E Mi (pc + 1) L (.long (i64 a) :: st) σ) : V K E Mi pc L (.int (i32 a) :: st) σ :=
  fun H locs ls hP hS hl => lv_i2l (v := i64 a) hE.1 hE.2.1 hd (i32_l ha) (k H locs ls hP hS hl)
theorem V_lconst0 (hE : Ok K E Mi d) (hd : decode Mi.2.1 pc = .ok (.lconst 0, 1)) (k : V K E Mi (pc + 1) L (.long (i64 0) :: st) σ) : V K E Mi pc L st σ :=
  fun H locs ls hP hS hl => lv_lconst (v := i64 0) hE.1 hE.2.1 hd rfl (k H locs ls hP hS hl)
theorem V_lconst1 (hE : Ok K E Mi d) (hd : decode Mi.2.1 pc = .ok (.lconst 1, 1)) (k : V K E Mi (pc + 1) L (.long (i64 1) :: st) σ) : V K E Mi pc L st σ :=
  fun H locs ls hP hS hl => lv_lconst (v := i64 1) hE.1 hE.2.1 hd rfl (k H locs ls hP hS hl)
theorem V_ldc (hE : Ok K E Mi d) {i : Nat} {n : Int} (hw : Cond.constant Mi.1.cls i (i32 n) ∈ TW) (hd : decode Mi.2.1 pc = .ok (.ldc i, 2)) (k : V K E Mi (pc + 2) L (.int (i32 n) :: st) σ) : V K E Mi pc L st σ :=
  fun H locs ls hP hS hl => lv_ldc hE.1 hE.2.1 hE.2.2.2.1 (hE.2.2.2.2.1 _ hw) hd (k H locs ls hP hS hl)
theorem V_ldc2 (hE : Ok K E Mi d) {i : Nat} {n : Int} (hw : Cond.constantLong Mi.1.cls i (i64 n) ∈ TW) (hd : decode Mi.2.1 pc = .ok (.ldc2_w i, 3)) (k : V K E Mi (pc + 3) L (.long (i64 n) :: st) σ) : V K E Mi pc L st σ :=
  fun H locs ls hP hS hl => lv_ldc2 hE.1 hE.2.1 hE.2.2.2.1 (hE.2.2.2.2.1 _ hw) hd (k H locs ls hP hS hl)
theorem V_dup (hE : Ok K E Mi d) {v : Value} (hd : decode Mi.2.1 pc = .ok (.dup, 1)) (hv : v.category = 1) (k : V K E Mi (pc + 1) L (v :: v :: st) σ) : V K E Mi pc L (v :: st) σ :=
  fun H locs ls hP hS hl => lv_dup hE.1 hE.2.1 hd hv (k H locs ls hP hS hl)
theorem V_dup2 (hE : Ok K E Mi d) {v w : Value} (hd : decode Mi.2.1 pc = .ok (.dup2, 1)) (hv : v.category = 1) (hw : w.category = 1) (k : V K E Mi (pc + 1) L (v :: w :: v :: w :: st) σ) : V K E Mi pc L (v :: w :: st) σ :=
  fun H locs ls hP hS hl => lv_dup2_11 hE.1 hE.2.1 hd hv hw (k H locs ls hP hS hl)
theorem V_pop (hE : Ok K E Mi d) {v : Value} (hd : decode Mi.2.1 pc = .ok (.pop, 1)) (hv : v.category = 1) (k : V K E Mi (pc + 1) L st σ) : V K E Mi pc L (v :: st) σ :=
  fun H locs ls hP hS hl => lv_pop hE.1 hE.2.1 hd hv (k H locs ls hP hS hl)
theorem V_goto (hE : Ok K E Mi d) {off : Int} (tgt : Nat) (hd : decode Mi.2.1 pc = .ok (.goto off, 3)) (ht : (pc : Int) + off = (tgt : Int)) (k : V K E Mi tgt L st σ) : V K E Mi pc L st σ :=
  fun H locs ls hP hS hl => lv_goto hE.1 hE.2.1 hd ht (k H locs ls hP hS hl)
theorem V_icmp_eq (hE : Ok K E Mi d) {a b off : Int} (tgt : Nat) (hd : decode Mi.2.1 pc = .ok (.if_icmp .eq off, 3)) (ht : (pc : Int) + off = (tgt : Int)) (hr : InI a ∧ InI b) (kt : a = b → V K E Mi tgt L st σ) (kf : ¬ a = b → V K E Mi (pc + 3) L st σ) : V K E Mi pc L (.int (i32 b) :: .int (i32 a) :: st) σ :=
  fun H locs ls hP hS hl => lv_icmp_eq hE.1 hE.2.1 hd ht (fun h => kt ((i32_eq hr.1 hr.2).mp h) H locs ls hP hS hl) (fun h => kf (fun q => h ((i32_eq hr.1 hr.2).mpr q)) H locs ls hP hS hl)
theorem V_icmp_ne (hE : Ok K E Mi d) {a b off : Int} (tgt : Nat) (hd : decode Mi.2.1 pc = .ok (.if_icmp .ne off, 3)) (ht : (pc : Int) + off = (tgt : Int)) (hr : InI a ∧ InI b) (kt : ¬ a = b → V K E Mi tgt L st σ) (kf : a = b → V K E Mi (pc + 3) L st σ) : V K E Mi pc L (.int (i32 b) :: .int (i32 a) :: st) σ :=
  fun H locs ls hP hS hl => lv_icmp_ne hE.1 hE.2.1 hd ht (fun h => kt (fun q => h ((i32_eq hr.1 hr.2).mpr q)) H locs ls hP hS hl) (fun h => kf ((i32_eq hr.1 hr.2).mp h) H locs ls hP hS hl)
theorem V_icmp_lt (hE : Ok K E Mi d) {a b off : Int} (tgt : Nat) (hd : decode Mi.2.1 pc = .ok (.if_icmp .lt off, 3)) (ht : (pc : Int) + off = (tgt : Int)) (hr : InI a ∧ InI b) (kt : a < b → V K E Mi tgt L st σ) (kf : b ≤ a → V K E Mi (pc + 3) L st σ) : V K E Mi pc L (.int (i32 b) :: .int (i32 a) :: st) σ :=
  fun H locs ls hP hS hl => lv_icmp_lt hE.1 hE.2.1 hd ht (fun h => kt ((i32_lt hr.1 hr.2).mp h) H locs ls hP hS hl) (fun h => kf (Int.not_lt.mp fun q => h ((i32_lt hr.1 hr.2).mpr q)) H locs ls hP hS hl)
theorem V_icmp_ge (hE : Ok K E Mi d) {a b off : Int} (tgt : Nat) (hd : decode Mi.2.1 pc = .ok (.if_icmp .ge off, 3)) (ht : (pc : Int) + off = (tgt : Int)) (hr : InI a ∧ InI b) (kt : b ≤ a → V K E Mi tgt L st σ) (kf : a < b → V K E Mi (pc + 3) L st σ) : V K E Mi pc L (.int (i32 b) :: .int (i32 a) :: st) σ :=
  fun H locs ls hP hS hl => lv_icmp_ge hE.1 hE.2.1 hd ht (fun h => kt ((i32_le hr.2 hr.1).mp h) H locs ls hP hS hl) (fun h => kf (Int.not_le.mp fun q => h ((i32_le hr.2 hr.1).mpr q)) H locs ls hP hS hl)
theorem V_icmp_gt (hE : Ok K E Mi d) {a b off : Int} (tgt : Nat) (hd : decode Mi.2.1 pc = .ok (.if_icmp .gt off, 3)) (ht : (pc : Int) + off = (tgt : Int)) (hr : InI a ∧ InI b) (kt : b < a → V K E Mi tgt L st σ) (kf : a ≤ b → V K E Mi (pc + 3) L st σ) : V K E Mi pc L (.int (i32 b) :: .int (i32 a) :: st) σ :=
  fun H locs ls hP hS hl => lv_icmp_gt hE.1 hE.2.1 hd ht (fun h => kt ((i32_lt hr.2 hr.1).mp h) H locs ls hP hS hl) (fun h => kf (Int.not_lt.mp fun q => h ((i32_lt hr.2 hr.1).mpr q)) H locs ls hP hS hl)
theorem V_icmp_le (hE : Ok K E Mi d) {a b off : Int} (tgt : Nat) (hd : decode Mi.2.1 pc = .ok (.if_icmp .le off, 3)) (ht : (pc : Int) + off = (tgt : Int)) (hr : InI a ∧ InI b) (kt : a ≤ b → V K E Mi tgt L st σ) (kf : b < a → V K E Mi (pc + 3) L st σ) : V K E Mi pc L (.int (i32 b) :: .int (i32 a) :: st) σ :=
  fun H locs ls hP hS hl => lv_icmp_le hE.1 hE.2.1 hd ht (fun h => kt ((i32_le hr.1 hr.2).mp h) H locs ls hP hS hl) (fun h => kf (Int.not_le.mp fun q => h ((i32_le hr.1 hr.2).mpr q)) H locs ls hP hS hl)
theorem i32_z {a : Int} (h : InI a) : i32 a = 0 ↔ a = 0 := i32_eq (b := 0) h ⟨by omega, by omega⟩
theorem V_if_eq (hE : Ok K E Mi d) {a off : Int} (tgt : Nat) (hd : decode Mi.2.1 pc = .ok (.ifCond .eq off, 3)) (ht : (pc : Int) + off = (tgt : Int)) (hr : InI a) (kt : a = 0 → V K E Mi tgt L st σ) (kf : ¬ a = 0 → V K E Mi (pc + 3) L st σ) : V K E Mi pc L (.int (i32 a) :: st) σ :=
  fun H locs ls hP hS hl => lv_if_eq hE.1 hE.2.1 hd ht (fun h => kt ((i32_z hr).mp h) H locs ls hP hS hl) (fun h => kf (fun q => h ((i32_z hr).mpr q)) H locs ls hP hS hl)
theorem V_if_ne (hE : Ok K E Mi d) {a off : Int} (tgt : Nat) (hd : decode Mi.2.1 pc = .ok (.ifCond .ne off, 3)) (ht : (pc : Int) + off = (tgt : Int)) (hr : InI a) (kt : ¬ a = 0 → V K E Mi tgt L st σ) (kf : a = 0 → V K E Mi (pc + 3) L st σ) : V K E Mi pc L (.int (i32 a) :: st) σ :=
  fun H locs ls hP hS hl => lv_if_ne hE.1 hE.2.1 hd ht (fun h => kt (fun q => h ((i32_z hr).mpr q)) H locs ls hP hS hl) (fun h => kf ((i32_z hr).mp h) H locs ls hP hS hl)
theorem V_if_lt (hE : Ok K E Mi d) {a off : Int} (tgt : Nat) (hd : decode Mi.2.1 pc = .ok (.ifCond .lt off, 3)) (ht : (pc : Int) + off = (tgt : Int)) (hr : InI a) (kt : a < 0 → V K E Mi tgt L st σ) (kf : 0 ≤ a → V K E Mi (pc + 3) L st σ) : V K E Mi pc L (.int (i32 a) :: st) σ :=
  fun H locs ls hP hS hl => lv_if_lt hE.1 hE.2.1 hd ht (fun h => kt ((i32_lt (b := 0) hr ⟨by omega, by omega⟩).mp h) H locs ls hP hS hl) (fun h => kf (Int.not_lt.mp fun q => h ((i32_lt (b := 0) hr ⟨by omega, by omega⟩).mpr q)) H locs ls hP hS hl)
theorem V_if_ge (hE : Ok K E Mi d) {a off : Int} (tgt : Nat) (hd : decode Mi.2.1 pc = .ok (.ifCond .ge off, 3)) (ht : (pc : Int) + off = (tgt : Int)) (hr : InI a) (kt : 0 ≤ a → V K E Mi tgt L st σ) (kf : a < 0 → V K E Mi (pc + 3) L st σ) : V K E Mi pc L (.int (i32 a) :: st) σ :=
  fun H locs ls hP hS hl => lv_if_ge hE.1 hE.2.1 hd ht (fun h => kt ((i32_le (a := 0) ⟨by omega, by omega⟩ hr).mp h) H locs ls hP hS hl) (fun h => kf (Int.not_le.mp fun q => h ((i32_le (a := 0) ⟨by omega, by omega⟩ hr).mpr q)) H locs ls hP hS hl)
theorem V_if_gt (hE : Ok K E Mi d) {a off : Int} (tgt : Nat) (hd : decode Mi.2.1 pc = .ok (.ifCond .gt off, 3)) (ht : (pc : Int) + off = (tgt : Int)) (hr : InI a) (kt : 0 < a → V K E Mi tgt L st σ) (kf : a ≤ 0 → V K E Mi (pc + 3) L st σ) : V K E Mi pc L (.int (i32 a) :: st) σ :=
  fun H locs ls hP hS hl => lv_if_gt hE.1 hE.2.1 hd ht (fun h => kt ((i32_lt (a := 0) ⟨by omega, by omega⟩ hr).mp h) H locs ls hP hS hl) (fun h => kf (Int.not_lt.mp fun q => h ((i32_lt (a := 0) ⟨by omega, by omega⟩ hr).mpr q)) H locs ls hP hS hl)
theorem V_if_le (hE : Ok K E Mi d) {a off : Int} (tgt : Nat) (hd : decode Mi.2.1 pc = .ok (.ifCond .le off, 3)) (ht : (pc : Int) + off = (tgt : Int)) (hr : InI a) (kt : a ≤ 0 → V K E Mi tgt L st σ) (kf : 0 < a → V K E Mi (pc + 3) L st σ) : V K E Mi pc L (.int (i32 a) :: st) σ :=
  fun H locs ls hP hS hl => lv_if_le hE.1 hE.2.1 hd ht (fun h => kt ((i32_le (b := 0) hr ⟨by omega, by omega⟩).mp h) H locs ls hP hS hl) (fun h => kf (Int.not_le.mp fun q => h ((i32_le (b := 0) hr ⟨by omega, by omega⟩).mpr q)) H locs ls hP hS hl)
theorem V_lcmp_ge (hE : Ok K E Mi d) {a b off : Int} (tgt : Nat) (hc : decode Mi.2.1 pc = .ok (.lcmp, 1)) (hd : decode Mi.2.1 (pc + 1) = .ok (.ifCond .ge off, 3)) (ht : ((pc + 1 : Nat) : Int) + off = (tgt : Int)) (hr : InL a ∧ InL b) (kt : b ≤ a → V K E Mi tgt L st σ) (kf : a < b → V K E Mi (pc + 4) L st σ) : V K E Mi pc L (.long (i64 b) :: .long (i64 a) :: st) σ :=
  fun H locs ls hP hS hl => W.lcmp hE.1 hE.2.1 hc (lv_if_ge hE.1 hE.2.1 hd ht (fun h => kt ((i64_le hr.2 hr.1).mp ((lg_cmp_ge _ _).mp h)) H locs ls hP hS hl) (fun h => kf (Int.not_le.mp fun q => h ((lg_cmp_ge _ _).mpr ((i64_le hr.2 hr.1).mpr q))) H locs ls hP hS hl))
theorem V_lcmp_lt (hE : Ok K E Mi d) {a b off : Int} (tgt : Nat) (hc : decode Mi.2.1 pc = .ok (.lcmp, 1)) (hd : decode Mi.2.1 (pc + 1) = .ok (.ifCond .lt off, 3)) (ht : ((pc + 1 : Nat) : Int) + off = (tgt : Int)) (hr : InL a ∧ InL b) (kt : a < b → V K E Mi tgt L st σ) (kf : b ≤ a → V K E Mi (pc + 4) L st σ) : V K E Mi pc L (.long (i64 b) :: .long (i64 a) :: st) σ :=
  fun H locs ls hP hS hl => W.lcmp hE.1 hE.2.1 hc (lv_if_lt hE.1 hE.2.1 hd ht (fun h => kt ((i64_lt hr.1 hr.2).mp ((lg_cmp_lt _ _).mp h)) H locs ls hP hS hl) (fun h => kf (Int.not_lt.mp fun q => h ((lg_cmp_lt _ _).mpr ((i64_lt hr.1 hr.2).mpr q))) H locs ls hP hS hl))
theorem V_lcmp_gt (hE : Ok K E Mi d) {a b off : Int} (tgt : Nat) (hc : decode Mi.2.1 pc = .ok (.lcmp, 1)) (hd : decode Mi.2.1 (pc + 1) = .ok (.ifCond .gt off, 3)) (ht : ((pc + 1 : Nat) : Int) + off = (tgt : Int)) (hr : InL a ∧ InL b) (kt : b < a → V K E Mi tgt L st σ) (kf : a ≤ b → V K E Mi (pc + 4) L st σ) : V K E Mi pc L (.long (i64 b) :: .long (i64 a) :: st) σ :=
  fun H locs ls hP hS hl => W.lcmp hE.1 hE.2.1 hc (lv_if_gt hE.1 hE.2.1 hd ht (fun h => kt ((i64_lt hr.2 hr.1).mp ((lg_cmp_gt _ _).mp h)) H locs ls hP hS hl) (fun h => kf (Int.not_lt.mp fun q => h ((lg_cmp_gt _ _).mpr ((i64_lt hr.2 hr.1).mpr q))) H locs ls hP hS hl))
theorem V_lcmp_le (hE : Ok K E Mi d) {a b off : Int} (tgt : Nat) (hc : decode Mi.2.1 pc = .ok (.lcmp, 1)) (hd : decode Mi.2.1 (pc + 1) = .ok (.ifCond .le off, 3)) (ht : ((pc + 1 : Nat) : Int) + off = (tgt : Int)) (hr : InL a ∧ InL b) (kt : a ≤ b → V K E Mi tgt L st σ) (kf : b < a → V K E Mi (pc + 4) L st σ) : V K E Mi pc L (.long (i64 b) :: .long (i64 a) :: st) σ :=
  fun H locs ls hP hS hl => W.lcmp hE.1 hE.2.1 hc (lv_if_le hE.1 hE.2.1 hd ht (fun h => kt ((i64_le hr.1 hr.2).mp ((lg_cmp_le _ _).mp h)) H locs ls hP hS hl) (fun h => kf (Int.not_le.mp fun q => h ((lg_cmp_le _ _).mpr ((i64_le hr.1 hr.2).mpr q))) H locs ls hP hS hl))
theorem V_lcmp_eq (hE : Ok K E Mi d) {a b off : Int} (tgt : Nat) (hc : decode Mi.2.1 pc = .ok (.lcmp, 1)) (hd : decode Mi.2.1 (pc + 1) = .ok (.ifCond .eq off, 3)) (ht : ((pc + 1 : Nat) : Int) + off = (tgt : Int)) (hr : InL a ∧ InL b) (kt : a = b → V K E Mi tgt L st σ) (kf : ¬ a = b → V K E Mi (pc + 4) L st σ) : V K E Mi pc L (.long (i64 b) :: .long (i64 a) :: st) σ :=
  fun H locs ls hP hS hl => W.lcmp hE.1 hE.2.1 hc (lv_if_eq hE.1 hE.2.1 hd ht (fun h => kt ((i64_eq hr.1 hr.2).mp ((lg_cmp_eq _ _).mp h)) H locs ls hP hS hl) (fun h => kf (fun q => h ((lg_cmp_eq _ _).mpr ((i64_eq hr.1 hr.2).mpr q))) H locs ls hP hS hl))
theorem V_lcmp_ne (hE : Ok K E Mi d) {a b off : Int} (tgt : Nat) (hc : decode Mi.2.1 pc = .ok (.lcmp, 1)) (hd : decode Mi.2.1 (pc + 1) = .ok (.ifCond .ne off, 3)) (ht : ((pc + 1 : Nat) : Int) + off = (tgt : Int)) (hr : InL a ∧ InL b) (kt : ¬ a = b → V K E Mi tgt L st σ) (kf : a = b → V K E Mi (pc + 4) L st σ) : V K E Mi pc L (.long (i64 b) :: .long (i64 a) :: st) σ :=
  fun H locs ls hP hS hl => W.lcmp hE.1 hE.2.1 hc (lv_if_ne hE.1 hE.2.1 hd ht (fun h => kt (fun q => h ((lg_cmp_eq _ _).mpr ((i64_eq hr.1 hr.2).mpr q))) H locs ls hP hS hl) (fun h => kf ((i64_eq hr.1 hr.2).mp ((lg_cmp_eq _ _).mp h)) H locs ls hP hS hl))
theorem V_tableOut (hE : Ok K E Mi d) {a dflt lo hi : Int} {offs : Array Int} {len : Nat} (tgt : Nat) (hd : decode Mi.2.1 pc = .ok (.tableswitch dflt lo hi offs, len)) (hr : InI a) (h : a < lo ∨ hi < a) (ht : (pc : Int) + dflt = (tgt : Int)) (k : V K E Mi tgt L st σ) : V K E Mi pc L (.int (i32 a) :: st) σ :=
  fun H locs ls hP hS hl => lv_tableOut hE.1 hE.2.1 hd (by rw [i32_toInt hr]; exact h) ht (k H locs ls hP hS hl)
theorem V_tableIn (hE : Ok K E Mi d) {a dflt lo hi : Int} {offs : Array Int} {len : Nat} {off : Int} (tgt : Nat) (hd : decode Mi.2.1 pc = .ok (.tableswitch dflt lo hi offs, len)) (hr : InI a) (h1 : lo ≤ a) (h2 : a ≤ hi) (ho : offs[(a - lo).toNat]? = some off) (ht : (pc : Int) + off = (tgt : Int)) (k : V K E Mi tgt L st σ) : V K E Mi pc L (.int (i32 a) :: st) σ :=
  fun H locs ls hP hS hl => lv_tableIn hE.1 hE.2.1 hd (by rw [i32_toInt hr]; omega) (by rw [i32_toInt hr]; omega) (by rw [i32_toInt hr]; exact ho) ht (k H locs ls hP hS hl)
end VROWS
end
section
section VHEAP
variable {K : Ctx} {E : ME} {Mi : MI} {d pc : Nat} {L : List (Option Value)} {st : List Value} {σ : Sto}
theorem ent_int {K : Ctx} {σ : Sto} {k n : Nat} (h : sh k = (0, n, [])) : ent K σ k = .inl (kI K, n, .inl (fun i => i32 (σ k i))) := by rw [ent, h]; rfl
theorem ent_long {K : Ctx} {σ : Sto} {k n : Nat} (h : sh k = (1, n, [])) : ent K σ k = .inl (kJ K, n, .inr (.inl (fun i => i64 (σ k i)))) := by rw [ent, h]; rfl
theorem ent_bool {K : Ctx} {σ : Sto} {k n : Nat} (h : sh k = (2, n, [])) : ent K σ k = .inl (kZ K, n, .inl (fun i => i32 (σ k i))) := by rw [ent, h]; rfl
theorem sh_lt {k a n : Nat} {fs : List (Nat × Nat)} (h : sh k = (a, n, fs)) (hn : a ≠ 0 ∨ n ≠ 0) : k < 32 := by
  rcases Nat.lt_or_ge k 32 with h1 | h1
  · exact h1
  · exfalso
    obtain ⟨j, rfl⟩ : ∃ j, k = j + 32 := ⟨k - 32, by omega⟩
    rw [show sh (j + 32) = (0, 0, []) from rfl] at h
    cases h
    omega
theorem sh_le : ∀ k, k < 32 → (sh k).2.1 < 4000 := by decide +kernel
theorem sh_n {k a n : Nat} {fs : List (Nat × Nat)} (h : sh k = (a, n, fs)) (hk : k < 32) : n < 2147483648 := by
  have h1 := sh_le k hk
  rw [h] at h1
  have h2 : n < 4000 := h1
  omega
theorem V_iaload (hE : Ok K E Mi d) {k n : Nat} {i : Int} (hd : decode Mi.2.1 pc = .ok (.iaload, 1)) (hs : sh k = (0, n, [])) (hi : 0 ≤ i ∧ i < n) (kk : V K E Mi (pc + 1) L (.int (i32 (σ k i.toNat)) :: st) σ) : V K E Mi pc L (.int (i32 i) :: .ref (kA K k) :: st) σ := by
  intro H locs ls hP hS hl
  have hk := sh_lt hs (Or.inr (by omega))
  have hn := sh_n hs hk
  refine va_iald (f := fun i => i32 (σ k i)) hE.1 hE.2.1 hE.2.2.2.2.2.1.1 hP k 0 (by rw [wld_get K σ hk, ent_int hs]) rfl (i32_in hi hn) hd ?_
  rw [i32_cl ⟨by omega, by omega⟩]
  exact kk H locs ls hP hS hl
theorem V_baload (hE : Ok K E Mi d) {k n : Nat} {i : Int} (hd : decode Mi.2.1 pc = .ok (.baload, 1)) (hs : sh k = (2, n, [])) (hi : 0 ≤ i ∧ i < n) (kk : V K E Mi (pc + 1) L (.int (i32 (σ k i.toNat)) :: st) σ) : V K E Mi pc L (.int (i32 i) :: .ref (kA K k) :: st) σ := by
  intro H locs ls hP hS hl
  have hk := sh_lt hs (Or.inl (by decide))
  have hn := sh_n hs hk
  refine va_zald (f := fun i => i32 (σ k i)) hE.1 hE.2.1 hE.2.2.2.2.2.1.1 hP k 2 (by rw [wld_get K σ hk, ent_bool hs]) rfl (i32_in hi hn) hd ?_
  rw [i32_cl ⟨by omega, by omega⟩]
  exact kk H locs ls hP hS hl
theorem V_laload (hE : Ok K E Mi d) {k n : Nat} {i : Int} (hd : decode Mi.2.1 pc = .ok (.laload, 1)) (hs : sh k = (1, n, [])) (hi : 0 ≤ i ∧ i < n) (kk : V K E Mi (pc + 1) L (.long (i64 (σ k i.toNat)) :: st) σ) : V K E Mi pc L (.int (i32 i) :: .ref (kA K k) :: st) σ := by
  intro H locs ls hP hS hl
  have hk := sh_lt hs (Or.inl (by decide))
  have hn := sh_n hs hk
  refine va_lald (f := fun i => i64 (σ k i)) hE.1 hE.2.1 hE.2.2.2.2.2.1.1 hP k 1 (by rw [wld_get K σ hk, ent_long hs]) rfl (i32_in hi hn) hd ?_
  rw [i32_cl ⟨by omega, by omega⟩]
  exact kk H locs ls hP hS hl
theorem V_alen (hE : Ok K E Mi d) {k n : Nat} (hd : decode Mi.2.1 pc = .ok (.arraylength, 1)) (hs : sh k = (0, n, [])) (hn : n ≠ 0) (kk : V K E Mi (pc + 1) L (.int (i32 n) :: st) σ) : V K E Mi pc L (.ref (kA K k) :: st) σ := by
  intro H locs ls hP hS hl
  have hk := sh_lt hs (Or.inr hn)
  exact va_alen (v := i32 n) hE.1 hE.2.1 hE.2.2.2.2.2.1.1 hP k 0 (by rw [wld_get K σ hk, ent_int hs]) rfl (by first | rfl | exact (Int32.ofInt_eq_ofNat).symm | simp [i32]) hd (kk H locs ls hP hS hl)
theorem ent_int_up {k n i : Nat} {v : Int} (hs : sh k = (0, n, [])) : ent K (up σ k i v) k = .inl (kI K, n, .inl (upd (fun i => i32 (σ k i)) i (i32 v))) := by
  rw [ent_int hs]
  congr 4
  funext j
  by_cases h : j = i <;> simp [up, upd, h]
theorem ent_bool_up {k n i : Nat} {v : Int} (hs : sh k = (2, n, [])) : ent K (up σ k i v) k = .inl (kZ K, n, .inl (upd (fun i => i32 (σ k i)) i (i32 v))) := by
  rw [ent_bool hs]
  congr 4
  funext j
  by_cases h : j = i <;> simp [up, upd, h]
theorem ent_long_up {k n i : Nat} {v : Int} (hs : sh k = (1, n, [])) : ent K (up σ k i v) k = .inl (kJ K, n, .inr (.inl (vp_updL (fun i => i64 (σ k i)) i (i64 v)))) := by
  rw [ent_long hs]
  congr 5
  funext j
  by_cases h : j = i <;> simp [up, vp_updL, h]
theorem V_iastore (hE : Ok K E Mi d) {k n : Nat} {i v : Int} (hd : decode Mi.2.1 pc = .ok (.iastore, 1)) (hs : sh k = (0, n, [])) (hi : 0 ≤ i ∧ i < n) (kk : V K E Mi (pc + 1) L st (up σ k i.toNat v)) : V K E Mi pc L (.int (i32 v) :: .int (i32 i) :: .ref (kA K k) :: st) σ := by
  intro H locs ls hP hS hl
  have hk := sh_lt hs (Or.inr (by omega))
  have hn := sh_n hs hk
  refine va_iast (f := fun i => i32 (σ k i)) hE.1 hE.2.1 hE.2.2.2.2.2.1.1 hP (wld_D hE.2.2.2.2.2.1.2.2.2 hE.2.2.2.2.2.2.2 σ) hS k 0 (by rw [wld_get K σ hk, ent_int hs]) rfl (i32_in hi hn) hd ?_
  rw [i32_cl ⟨by omega, by omega⟩, wld_set hk (ent_arr_ne (by omega)) (ent_int_up hs)]
  exact fun H1 locs1 h1 _ h3 => kk H1 locs1 ls h1 h3 hl
theorem nar_bool {v : Int} (h : v = 0 ∨ v = 1) : vp_nar .boolean (i32 v) = i32 v := by rcases h with rfl | rfl <;> rfl
theorem V_bastore (hE : Ok K E Mi d) {k n : Nat} {i v : Int} (hd : decode Mi.2.1 pc = .ok (.bastore, 1)) (hs : sh k = (2, n, [])) (hi : 0 ≤ i ∧ i < n) (hv : v = 0 ∨ v = 1) (kk : V K E Mi (pc + 1) L st (up σ k i.toNat v)) : V K E Mi pc L (.int (i32 v) :: .int (i32 i) :: .ref (kA K k) :: st) σ := by
  intro H locs ls hP hS hl
  have hk := sh_lt hs (Or.inl (by decide))
  have hn := sh_n hs hk
  refine va_zast (f := fun i => i32 (σ k i)) hE.1 hE.2.1 hE.2.2.2.2.2.1.1 hP (wld_D hE.2.2.2.2.2.1.2.2.2 hE.2.2.2.2.2.2.2 σ) hS k 2 (by rw [wld_get K σ hk, ent_bool hs]) rfl (i32_in hi hn) hd ?_
  rw [i32_cl ⟨by omega, by omega⟩, nar_bool hv, wld_set hk (ent_arr_ne (by omega)) (ent_bool_up hs)]
  exact fun H1 locs1 h1 _ h3 => kk H1 locs1 ls h1 h3 hl
theorem V_lastore (hE : Ok K E Mi d) {k n : Nat} {i v : Int} (hd : decode Mi.2.1 pc = .ok (.lastore, 1)) (hs : sh k = (1, n, [])) (hi : 0 ≤ i ∧ i < n) (kk : V K E Mi (pc + 1) L st (up σ k i.toNat v)) : V K E Mi pc L (.long (i64 v) :: .int (i32 i) :: .ref (kA K k) :: st) σ := by
  intro H locs ls hP hS hl
  have hk := sh_lt hs (Or.inl (by decide))
  have hn := sh_n hs hk
  refine va_last (f := fun i => i64 (σ k i)) hE.1 hE.2.1 hE.2.2.2.2.2.1.1 hP (wld_D hE.2.2.2.2.2.1.2.2.2 hE.2.2.2.2.2.2.2 σ) hS k 1 (by rw [wld_get K σ hk, ent_long hs]) rfl (i32_in hi hn) hd ?_
  rw [i32_cl ⟨by omega, by omega⟩, wld_set hk (ent_arr_ne (by omega)) (ent_long_up hs)]
  exact fun H1 locs1 h1 _ h3 => kk H1 locs1 ls h1 h3 hl
/-- a field is read: object k of class ci, its field j -/
theorem V_get (hE : Ok K E Mi d) {k ci j index N : Nat} {ref C : String} {T : u_T} {fs : List (Nat × Nat)} {f : Nat × Nat} (hs : sh k = (3, ci, fs)) (hf : fs[j]? = some f) (hc : vwCl[ci]? = some (C, T, N)) (hj : Nat.blt j N = true) (hin : ∀ w ∈ u_ws C T N, w ∈ TW)
    (hlink : Cond.fieldLink Mi.1.cls index ref (T j).2.1 (T j).2.2.1 ∈ TW) (href : (T j).1 = ref) (hd : decode Mi.2.1 pc = .ok (.getfield index, 3)) (kk : V K E Mi (pc + 3) L (fv K σ f :: st) σ) : V K E Mi pc L (.ref (kA K k) :: st) σ := by
  intro H locs ls hP hS hl
  have hk := sh_lt hs (Or.inl (by decide))
  exact va_get (v := fv K σ f) hE.1 hE.2.1 hE.2.2.2.2.1 hin hE.2.2.2.1 hE.2.2.2.2.2.1.1 hP k (fs := fs.map (fv K σ)) (by rw [wld_get K σ hk, ent, hs]; rfl) hc j (Nat.le_of_ble_eq_true hj) (hE.2.2.2.2.1 _ hlink) (fun _ h => by rw [← href]; exact h) (by rw [List.getElem?_map, hf]; rfl) hd (kk H locs ls hP hS hl)
theorem V_getN (hE : Ok K E Mi d) {k ci j index N : Nat} {ref C host : String} {T : u_T} {fs : List (Nat × Nat)} {f : Nat × Nat} (hs : sh k = (3, ci, fs)) (hf : fs[j]? = some f) (hc : vwCl[ci]? = some (C, T, N)) (hj : Nat.blt j N = true) (hin : ∀ w ∈ u_ws C T N, w ∈ TW)
    (hlink : Cond.fieldLinkNest Mi.1.cls index ref (T j).2.1 (T j).2.2.1 host ∈ nwL) (href : (T j).1 = ref) (hd : decode Mi.2.1 pc = .ok (.getfield index, 3)) (kk : V K E Mi (pc + 3) L (fv K σ f :: st) σ) : V K E Mi pc L (.ref (kA K k) :: st) σ := by
  intro H locs ls hP hS hl
  have hk := sh_lt hs (Or.inl (by decide))
  exact va_getN (v := fv K σ f) hE.1 hE.2.1 hE.2.2.2.2.1 hin hE.2.2.2.1 hE.2.2.2.2.2.1.1 hP k (fs := fs.map (fv K σ)) (by rw [wld_get K σ hk, ent, hs]; rfl) hc j (Nat.le_of_ble_eq_true hj) (va_Nw.use rfl (hE.2.2.2.2.2.1.2.1 _ hlink)) (fun _ h => by rw [← href]; exact h) (by rw [List.getElem?_map, hf]; rfl) hd (kk H locs ls hP hS hl)
/-- a number of an object is written -/
theorem V_put (hE : Ok K E Mi d) {k ci j index N dd : Nat} {ref C : String} {T : u_T} {fs : List (Nat × Nat)} {ty0 : Nat → FieldType} {x : Int} (hs : sh k = (3, ci, fs)) (hc : vwCl[ci]? = some (C, T, N)) (hj : Nat.blt j N = true) (hin : ∀ w ∈ u_ws C T N, w ∈ TW)
    (hty : ∀ k, k < N → parseFieldDescriptor (T k).2.2.1 = some (ty0 k)) (hnm : ∀ a, a < N → ∀ b, b < N → a ≠ b → (T a).2.1 ≠ (T b).2.1) (hlink : Cond.fieldLink Mi.1.cls index ref (T j).2.1 (T j).2.2.1 ∈ TW) (href : (T j).1 = ref) (hfin : (T j).2.2.2 = false)
    (hd0 : parseFieldDescriptor (T j).2.2.1 = some .int) (hlen : Nat.blt j fs.length = true) (hdd : 100 ≤ dd) (hot : ∀ k', k' < 32 → k' ≠ k → ∀ f ∈ (sh k').2.2, f.1 = 0 ∨ f.2 ≠ dd) (hset : ∀ v : Int, fs.map (fv K (up σ dd 0 v)) = (fs.map (fv K σ)).set j (.int (i32 v)))
    (hd : decode Mi.2.1 pc = .ok (.putfield index, 3)) (kk : V K E Mi (pc + 3) L st (up σ dd 0 x)) : V K E Mi pc L (.int (i32 x) :: .ref (kA K k) :: st) σ := by
  intro H locs ls hP hS hl
  have hk := sh_lt hs (Or.inl (by decide))
  refine va_put (v := .int (i32 x)) (ty := .int) hE.1 hE.2.1 hE.2.2.2.2.1 hin ty0 hty hnm hE.2.2.2.1 hE.2.2.2.2.2.1.1 hP (wld_D hE.2.2.2.2.2.1.2.2.2 hE.2.2.2.2.2.2.2 σ) hS k (fs := fs.map (fv K σ)) (by rw [wld_get K σ hk, ent, hs]; rfl) hc j (Nat.le_of_ble_eq_true hj) (hE.2.2.2.2.1 _ hlink) (fun _ h => by rw [← href]; exact h) hfin hd0 rfl rfl (by rw [List.length_map]; exact Nat.le_of_ble_eq_true hlen) hd ?_
  rw [wld_set hk (ent_fld_ne hdd hot) (by rw [ent, hs]; show Sum.inr (ci, fs.map (fv K (up σ dd 0 x))) = _; rw [hset])]
  exact fun H1 locs1 h1 _ h3 => kk H1 locs1 ls h1 h3 hl
theorem V_putN (hE : Ok K E Mi d) {k ci j index N dd : Nat} {ref C host : String} {T : u_T} {fs : List (Nat × Nat)} {ty0 : Nat → FieldType} {x : Int} (hs : sh k = (3, ci, fs)) (hc : vwCl[ci]? = some (C, T, N)) (hj : Nat.blt j N = true) (hin : ∀ w ∈ u_ws C T N, w ∈ TW)
    (hty : ∀ k, k < N → parseFieldDescriptor (T k).2.2.1 = some (ty0 k)) (hnm : ∀ a, a < N → ∀ b, b < N → a ≠ b → (T a).2.1 ≠ (T b).2.1) (hlink : Cond.fieldLinkNest Mi.1.cls index ref (T j).2.1 (T j).2.2.1 host ∈ nwL) (href : (T j).1 = ref) (hfin : (T j).2.2.2 = false)
    (hd0 : parseFieldDescriptor (T j).2.2.1 = some .int) (hlen : Nat.blt j fs.length = true) (hdd : 100 ≤ dd) (hot : ∀ k', k' < 32 → k' ≠ k → ∀ f ∈ (sh k').2.2, f.1 = 0 ∨ f.2 ≠ dd) (hset : ∀ v : Int, fs.map (fv K (up σ dd 0 v)) = (fs.map (fv K σ)).set j (.int (i32 v)))
    (hd : decode Mi.2.1 pc = .ok (.putfield index, 3)) (kk : V K E Mi (pc + 3) L st (up σ dd 0 x)) : V K E Mi pc L (.int (i32 x) :: .ref (kA K k) :: st) σ := by
  intro H locs ls hP hS hl
  have hk := sh_lt hs (Or.inl (by decide))
  refine va_putN (v := .int (i32 x)) (ty := .int) hE.1 hE.2.1 hE.2.2.2.2.1 hin ty0 hty hnm hE.2.2.2.1 hE.2.2.2.2.2.1.1 hP (wld_D hE.2.2.2.2.2.1.2.2.2 hE.2.2.2.2.2.2.2 σ) hS k (fs := fs.map (fv K σ)) (by rw [wld_get K σ hk, ent, hs]; rfl) hc j (Nat.le_of_ble_eq_true hj) (va_Nw.use rfl (hE.2.2.2.2.2.1.2.1 _ hlink)) (fun _ h => by rw [← href]; exact h) hfin hd0 rfl rfl (by rw [List.length_map]; exact Nat.le_of_ble_eq_true hlen) hd ?_
  rw [wld_set hk (ent_fld_ne hdd hot) (by rw [ent, hs]; show Sum.inr (ci, fs.map (fv K (up σ dd 0 x))) = _; rw [hset])]
  exact fun H1 locs1 h1 _ h3 => kk H1 locs1 ls h1 h3 hl
theorem V_putL (hE : Ok K E Mi d) {k ci j index N dd : Nat} {ref C : String} {T : u_T} {fs : List (Nat × Nat)} {ty0 : Nat → FieldType} {x : Int} (hs : sh k = (3, ci, fs)) (hc : vwCl[ci]? = some (C, T, N)) (hj : Nat.blt j N = true) (hin : ∀ w ∈ u_ws C T N, w ∈ TW)
    (hty : ∀ k, k < N → parseFieldDescriptor (T k).2.2.1 = some (ty0 k)) (hnm : ∀ a, a < N → ∀ b, b < N → a ≠ b → (T a).2.1 ≠ (T b).2.1) (hlink : Cond.fieldLink Mi.1.cls index ref (T j).2.1 (T j).2.2.1 ∈ TW) (href : (T j).1 = ref) (hfin : (T j).2.2.2 = false)
    (hd0 : parseFieldDescriptor (T j).2.2.1 = some .long) (hlen : Nat.blt j fs.length = true) (hdd : 100 ≤ dd) (hot : ∀ k', k' < 32 → k' ≠ k → ∀ f ∈ (sh k').2.2, f.1 = 0 ∨ f.2 ≠ dd) (hset : ∀ v : Int, fs.map (fv K (up σ dd 0 v)) = (fs.map (fv K σ)).set j (.long (i64 v)))
    (hd : decode Mi.2.1 pc = .ok (.putfield index, 3)) (kk : V K E Mi (pc + 3) L st (up σ dd 0 x)) : V K E Mi pc L (.long (i64 x) :: .ref (kA K k) :: st) σ := by
  intro H locs ls hP hS hl
  have hk := sh_lt hs (Or.inl (by decide))
  refine va_put (v := .long (i64 x)) (ty := .long) hE.1 hE.2.1 hE.2.2.2.2.1 hin ty0 hty hnm hE.2.2.2.1 hE.2.2.2.2.2.1.1 hP (wld_D hE.2.2.2.2.2.1.2.2.2 hE.2.2.2.2.2.2.2 σ) hS k (fs := fs.map (fv K σ)) (by rw [wld_get K σ hk, ent, hs]; rfl) hc j (Nat.le_of_ble_eq_true hj) (hE.2.2.2.2.1 _ hlink) (fun _ h => by rw [← href]; exact h) hfin hd0 rfl rfl (by rw [List.length_map]; exact Nat.le_of_ble_eq_true hlen) hd ?_
  rw [wld_set hk (ent_fld_ne hdd hot) (by rw [ent, hs]; show Sum.inr (ci, fs.map (fv K (up σ dd 0 x))) = _; rw [hset])]
  exact fun H1 locs1 h1 _ h3 => kk H1 locs1 ls h1 h3 hl
/-- the two static arrays -/
theorem V_low (hE : Ok K E Mi d) {index : Nat} (hlink : Cond.fieldLink Mi.1.cls index "HullOffsets" "SETTING_LOW" "[I" ∈ TW) (hd : decode Mi.2.1 pc = .ok (.getstatic index, 3)) (kk : V K E Mi (pc + 3) L (.ref (kLow K) :: st) σ) : V K E Mi pc L st σ :=
  fun H locs ls hP hS hl => va_gets hE.1 hE.2.1 hE.2.2.2.2.2.1.2.2.1.1.1 hS hE.2.2.2.1 (hE.2.2.2.2.1 _ hlink) (fun _ h => h) hd (kk H locs ls hP hS hl)
theorem V_top (hE : Ok K E Mi d) {index : Nat} (hlink : Cond.fieldLink Mi.1.cls index "HullOffsets" "SETTING_TOP" "[I" ∈ TW) (hd : decode Mi.2.1 pc = .ok (.getstatic index, 3)) (kk : V K E Mi (pc + 3) L (.ref (kTop K) :: st) σ) : V K E Mi pc L st σ :=
  fun H locs ls hP hS hl => va_gets hE.1 hE.2.1 hE.2.2.2.2.2.1.2.2.1.2.1 hS hE.2.2.2.1 (hE.2.2.2.2.1 _ hlink) (fun _ h => h) hd (kk H locs ls hP hS hl)
theorem V_lowAt (hE : Ok K E Mi d) {i : Int} (hd : decode Mi.2.1 pc = .ok (.iaload, 1)) (hi : 0 ≤ i ∧ i < 4) (kk : V K E Mi (pc + 1) L (.int (i32 (if i < 2 then 0 else 1)) :: st) σ) : V K E Mi pc L (.int (i32 i) :: .ref (kLow K) :: st) σ := by
  intro H locs ls hP hS hl
  refine va_ti (v := .int (i32 (if i < 2 then 0 else 1))) hE.1 hE.2.1 hE.2.2.2.2.2.1.2.2.1.1.2 hS (i32_in (n := 4) hi (by decide)) ?_ hd (kk H locs ls hP hS hl)
  rw [i32_cl ⟨by omega, by omega⟩]
  by_cases h : i < 2
  · rw [if_pos h, if_pos (by omega)]
  · rw [if_neg h, if_neg (by omega)]
theorem V_topAt (hE : Ok K E Mi d) {i : Int} (hd : decode Mi.2.1 pc = .ok (.iaload, 1)) (hi : 0 ≤ i ∧ i < 4) (kk : V K E Mi (pc + 1) L (.int (i32 (if i = 0 then 999 else if i = 1 then 3 else 99)) :: st) σ) : V K E Mi pc L (.int (i32 i) :: .ref (kTop K) :: st) σ := by
  intro H locs ls hP hS hl
  refine va_ti (v := .int (i32 (if i = 0 then 999 else if i = 1 then 3 else 99))) hE.1 hE.2.1 hE.2.2.2.2.2.1.2.2.1.2.2 hS (i32_in (n := 4) hi (by decide)) ?_ hd (kk H locs ls hP hS hl)
  rw [i32_cl ⟨by omega, by omega⟩]
  rcases (show i = 0 ∨ i = 1 ∨ i = 2 ∨ i = 3 by omega) with rfl | rfl | rfl | rfl <;> rfl
end VHEAP
end
section
/-! CONTRACTS over the pure store -/
def QcI (K : Ctx) (post : Int → Sto → Prop) : Array Value → State → Outcome → State → Prop := va_Qi (S := Int × Sto) (fun r u => r = i32 u.1 ∧ post u.1 u.2) (fun u t => va_P K.1 vwCl (wld K u.2) t.heap) (Own K)
def QcL (K : Ctx) (post : Int → Sto → Prop) : Array Value → State → Outcome → State → Prop := va_Ql (S := Int × Sto) (fun r u => r = i64 u.1 ∧ post u.1 u.2) (fun u t => va_P K.1 vwCl (wld K u.2) t.heap) (Own K)
def QcV (K : Ctx) (post : Sto → Prop) : Array Value → State → Outcome → State → Prop := va_Qv (S := Sto) post (fun u t => va_P K.1 vwCl (wld K u) t.heap) (Own K)
def PcK (K : Ctx) (As : List Value) (σ : Sto) : Array Value → State → Prop := va_Pc As (fun U => va_P K.1 vwCl (wld K σ) U.heap ∧ KU K (Own K) U U.heap)
def CtI (K : Ctx) (Mi : MI) (d : Nat) (As : List Value) (σ : Sto) (post : Int → Sto → Prop) : Prop := ∀ l : Launch, Met l Mi.1 (wsM Mi) (rmD d) (PcK K As σ) (QcI K post) 0 0 (Own K)
def CtL (K : Ctx) (Mi : MI) (d : Nat) (As : List Value) (σ : Sto) (post : Int → Sto → Prop) : Prop := ∀ l : Launch, Met l Mi.1 (wsM Mi) (rmD d) (PcK K As σ) (QcL K post) 0 0 (Own K)
def CtV (K : Ctx) (Mi : MI) (d : Nat) (As : List Value) (σ : Sto) (post : Sto → Prop) : Prop := ∀ l : Launch, Met l Mi.1 (wsM Mi) (rmD d) (PcK K As σ) (QcV K post) 0 0 (Own K)
def RetI (K : Ctx) (E : ME) (Mi : MI) (post : Int → Sto → Prop) : Prop := ∀ (pc : Nat) (ls : Array Slot) (H : Heap) (locs : List Loc) (r : Int) (σ : Sto), decode Mi.2.1 pc = .ok (.ireturn, 1) → post r σ → va_P K.1 vwCl (wld K σ) H → va_S (eA E) (eS E).heap H locs → WE E H locs (F0 (eM E) pc ls [.int (i32 r)])
def RetZ (K : Ctx) (E : ME) (Mi : MI) (post : Int → Sto → Prop) : Prop := ∀ (pc : Nat) (ls : Array Slot) (H : Heap) (locs : List Loc) (r : Int) (σ : Sto), decode Mi.2.1 pc = .ok (.ireturn, 1) → (r = 0 ∨ r = 1) → post r σ → va_P K.1 vwCl (wld K σ) H → va_S (eA E) (eS E).heap H locs → WE E H locs (F0 (eM E) pc ls [.int (i32 r)])
def RetL (K : Ctx) (E : ME) (Mi : MI) (post : Int → Sto → Prop) : Prop := ∀ (pc : Nat) (ls : Array Slot) (H : Heap) (locs : List Loc) (r : Int) (σ : Sto), decode Mi.2.1 pc = .ok (.lreturn, 1) → post r σ → va_P K.1 vwCl (wld K σ) H → va_S (eA E) (eS E).heap H locs → WE E H locs (F0 (eM E) pc ls [.long (i64 r)])
def RetV (K : Ctx) (E : ME) (Mi : MI) (post : Sto → Prop) : Prop := ∀ (pc : Nat) (ls : Array Slot) (H : Heap) (locs : List Loc) (σ : Sto), decode Mi.2.1 pc = .ok (.return_, 1) → post σ → va_P K.1 vwCl (wld K σ) H → va_S (eA E) (eS E).heap H locs → WE E H locs (F0 (eM E) pc ls [])
theorem narZ {r : Int} (h : r = 0 ∨ r = 1) : narrow .boolean (.int (i32 r)) = .int (i32 r) := by rcases h with rfl | rfl <;> rfl
section VCT
variable {K : Ctx} {Mi : MI} {d : Nat} {As : List Value} {σ : Sto} {L : List (Option Value)}
theorem CtI_of {post : Int → Sto → Prop} (hy : plainName Mi.1.cls = true) (hret : Mi.2.2.2 = some .int) (hlen : Nat.ble (lg_sl As).length Mi.2.2.1 = true) (hL : al 0 L = lv_args 0 As)
    (h : ∀ E, Ok K E Mi d → RetI K E Mi post → V K E Mi 0 L [] σ) : CtI K Mi d As σ post := by
  intro l
  refine Met.ofW (cc := Mi.2.1) (maxL := Mi.2.2.1) (ret := Mi.2.2.2) hy rfl ?_
  intro p e s m args below meth c s₁ B hml hv
  obtain ⟨rfl, hP, hKU⟩ := hv
  have hts := atoms_spec (ws := wsM Mi) B.pre
  have hl := lv_entry As (n := Mi.2.2.1) (Nat.le_of_ble_eq_true hlen)
  have hlocks := B.notSynchronized
  have hx := B.exec
  have hb := B.bytes
  have hr : meth.sig.returnType = some .int := B.returns.trans hret
  rw [lg_entry_eq]
  rw [← hL] at hl
  exact h (p, l, e, (headSpec (wsM Mi) (rmD d)).room, s, m, As.toArray, below, meth, c, 0, 0, MQ below (QcI K post) As.toArray s 0 0 (Own K), Own K) ⟨B.exec, B.bytes, hml, findClass_of_methodNamed B.named, fun w h => hts w (List.mem_cons_of_mem _ h), hKU, ⟨Nat.le_refl _, Nat.le_refl _, Nat.zero_le _, Nat.zero_le _⟩, fun _ h => h⟩
    (fun pc ls H locs r σ' hd hpost hP' hS' => W.iret (v := i32 r) hx hb hr (fun t ht hW => ⟨⟨i32 r, (r, σ'), rfl, ⟨rfl, hpost⟩, (by show va_P K.1 vwCl (wld K σ') t.heap; rw [ht]; exact hP')⟩, hS'.F ht⟩) hS'.2.2 hd) s.heap [] _ hP va_S.rf hl
theorem CtZ_of {post : Int → Sto → Prop} (hy : plainName Mi.1.cls = true) (hret : Mi.2.2.2 = some .boolean) (hlen : Nat.ble (lg_sl As).length Mi.2.2.1 = true) (hL : al 0 L = lv_args 0 As)
    (h : ∀ E, Ok K E Mi d → RetZ K E Mi post → V K E Mi 0 L [] σ) : CtI K Mi d As σ post := by
  intro l
  refine Met.ofW (cc := Mi.2.1) (maxL := Mi.2.2.1) (ret := Mi.2.2.2) hy rfl ?_
  intro p e s m args below meth c s₁ B hml hv
  obtain ⟨rfl, hP, hKU⟩ := hv
  have hts := atoms_spec (ws := wsM Mi) B.pre
  have hl := lv_entry As (n := Mi.2.2.1) (Nat.le_of_ble_eq_true hlen)
  have hlocks := B.notSynchronized
  have hx := B.exec
  have hb := B.bytes
  have hr : meth.sig.returnType = some .boolean := B.returns.trans hret
  rw [lg_entry_eq]
  rw [← hL] at hl
  exact h (p, l, e, (headSpec (wsM Mi) (rmD d)).room, s, m, As.toArray, below, meth, c, 0, 0, MQ below (QcI K post) As.toArray s 0 0 (Own K), Own K) ⟨B.exec, B.bytes, hml, findClass_of_methodNamed B.named, fun w h => hts w (List.mem_cons_of_mem _ h), hKU, ⟨Nat.le_refl _, Nat.le_refl _, Nat.zero_le _, Nat.zero_le _⟩, fun _ h => h⟩
    (fun pc ls H locs r σ' hd hz hpost hP' hS' => W.zret (v := i32 r) (ty := .boolean) hx hb hr (narZ hz) (fun t ht hW => ⟨⟨i32 r, (r, σ'), rfl, ⟨rfl, hpost⟩, (by show va_P K.1 vwCl (wld K σ') t.heap; rw [ht]; exact hP')⟩, hS'.F ht⟩) hS'.2.2 hd) s.heap [] _ hP va_S.rf hl
theorem CtL_of {post : Int → Sto → Prop} (hy : plainName Mi.1.cls = true) (hret : Mi.2.2.2 = some .long) (hlen : Nat.ble (lg_sl As).length Mi.2.2.1 = true) (hL : al 0 L = lv_args 0 As)
    (h : ∀ E, Ok K E Mi d → RetL K E Mi post → V K E Mi 0 L [] σ) : CtL K Mi d As σ post := by
  intro l
  refine Met.ofW (cc := Mi.2.1) (maxL := Mi.2.2.1) (ret := Mi.2.2.2) hy rfl ?_
  intro p e s m args below meth c s₁ B hml hv
  obtain ⟨rfl, hP, hKU⟩ := hv
  have hts := atoms_spec (ws := wsM Mi) B.pre
  have hl := lv_entry As (n := Mi.2.2.1) (Nat.le_of_ble_eq_true hlen)
  have hlocks := B.notSynchronized
  have hx := B.exec
  have hb := B.bytes
  have hr : meth.sig.returnType = some .long := B.returns.trans hret
  rw [lg_entry_eq]
  rw [← hL] at hl
  exact h (p, l, e, (headSpec (wsM Mi) (rmD d)).room, s, m, As.toArray, below, meth, c, 0, 0, MQ below (QcL K post) As.toArray s 0 0 (Own K), Own K) ⟨B.exec, B.bytes, hml, findClass_of_methodNamed B.named, fun w h => hts w (List.mem_cons_of_mem _ h), hKU, ⟨Nat.le_refl _, Nat.le_refl _, Nat.zero_le _, Nat.zero_le _⟩, fun _ h => h⟩
    (fun pc ls H locs r σ' hd hpost hP' hS' => W.lret (v := i64 r) hx hb hr (fun t ht hW => ⟨⟨i64 r, (r, σ'), rfl, ⟨rfl, hpost⟩, (by show va_P K.1 vwCl (wld K σ') t.heap; rw [ht]; exact hP')⟩, hS'.F ht⟩) hS'.2.2 hd) s.heap [] _ hP va_S.rf hl
theorem CtV_of {post : Sto → Prop} (hy : plainName Mi.1.cls = true) (hret : Mi.2.2.2 = none) (hlen : Nat.ble (lg_sl As).length Mi.2.2.1 = true) (hL : al 0 L = lv_args 0 As)
    (h : ∀ E, Ok K E Mi d → RetV K E Mi post → V K E Mi 0 L [] σ) : CtV K Mi d As σ post := by
  intro l
  refine Met.ofW (cc := Mi.2.1) (maxL := Mi.2.2.1) (ret := Mi.2.2.2) hy rfl ?_
  intro p e s m args below meth c s₁ B hml hv
  obtain ⟨rfl, hP, hKU⟩ := hv
  have hts := atoms_spec (ws := wsM Mi) B.pre
  have hl := lv_entry As (n := Mi.2.2.1) (Nat.le_of_ble_eq_true hlen)
  have hlocks := B.notSynchronized
  have hx := B.exec
  have hb := B.bytes
  have hr : meth.sig.returnType = none := B.returns.trans hret
  rw [lg_entry_eq]
  rw [← hL] at hl
  exact h (p, l, e, (headSpec (wsM Mi) (rmD d)).room, s, m, As.toArray, below, meth, c, 0, 0, MQ below (QcV K post) As.toArray s 0 0 (Own K), Own K) ⟨B.exec, B.bytes, hml, findClass_of_methodNamed B.named, fun w h => hts w (List.mem_cons_of_mem _ h), hKU, ⟨Nat.le_refl _, Nat.le_refl _, Nat.zero_le _, Nat.zero_le _⟩, fun _ h => h⟩
    (fun pc ls H locs σ' hd hpost hP' hS' => W.vret hx hb hr (fun t ht hW => ⟨⟨σ', rfl, hpost, (by show va_P K.1 vwCl (wld K σ') t.heap; rw [ht]; exact hP')⟩, hS'.F ht⟩) hS'.2.2 hd) s.heap [] _ hP va_S.rf hl
end VCT
section VRUN
variable {K : Ctx} {E : ME} {Mi Mc : MI} {d dc pc idx n : Nat} {L : List (Option Value)} {As rest : List Value} {σ : Sto} {Qc : Array Value → State → Outcome → State → Prop}
theorem V_ireturn {post : Int → Sto → Prop} {r : Int} (hR : RetI K E Mi post) (hd : decode Mi.2.1 pc = .ok (.ireturn, 1)) (h : post r σ) : V K E Mi pc L [.int (i32 r)] σ := fun H locs ls hP hS _ => hR pc ls H locs r σ hd h hP hS
theorem V_zreturn {post : Int → Sto → Prop} {r : Int} (hR : RetZ K E Mi post) (hd : decode Mi.2.1 pc = .ok (.ireturn, 1)) (hz : r = 0 ∨ r = 1) (h : post r σ) : V K E Mi pc L [.int (i32 r)] σ := fun H locs ls hP hS _ => hR pc ls H locs r σ hd hz h hP hS
theorem V_lreturn {post : Int → Sto → Prop} {r : Int} (hR : RetL K E Mi post) (hd : decode Mi.2.1 pc = .ok (.lreturn, 1)) (h : post r σ) : V K E Mi pc L [.long (i64 r)] σ := fun H locs ls hP hS _ => hR pc ls H locs r σ hd h hP hS
theorem V_return {post : Sto → Prop} (hR : RetV K E Mi post) (hd : decode Mi.2.1 pc = .ok (.return_, 1)) (h : post σ) : V K E Mi pc L [] σ := fun H locs ls hP hS _ => hR pc ls H locs σ hd h hP hS
theorem KU_pass (hE : Ok K E Mi d) {H : Heap} {locs : List Loc} (hS : va_S (eA E) (eS E).heap H locs) {U : State} (hU : U.heap = H) (hW : (eS E).WarmedH U.vm) : KU K (Own K) U U.heap := by
  obtain ⟨h1, h2, h3, h4⟩ := hE.2.2.2.2.2.1
  refine ⟨va_K.moved hW.alike h1, NwAll.warm hW h2, ?_, h4⟩
  rw [hU]
  exact ((h3.kept hS.2.1).moved hW.alike).narrow hE.2.2.2.2.2.2.2
theorem PcK_blind : FrameBlind (PcK K As σ) := fun a U g mk q => ⟨q.1, q.2.1, va_K.moved (u := U) (U := U.calling g mk a) (Vm.Alike.refl U.vm) q.2.2.1, NwAll.same (u := U) (U := U.calling g mk a) rfl q.2.2.2.1, StU.moved (u := U) (U := U.calling g mk a) (Vm.Alike.refl U.vm) q.2.2.2.2.1, q.2.2.2.2.2⟩
theorem wsM_good (hco : Cond.code Mc.1 Mc.2.1 Mc.2.2.1 Mc.2.2.2 ∈ TW) : GoodIn TW (wsM Mc) := fun w h => TW_good w (by rcases List.mem_cons.mp h with rfl | h; exact hco; exact h)
/-- what a callee's name must be, and its locals -/
abbrev NmOk (Mc : MI) (n : Nat) : Prop := (Mc.1.cls ≠ "java/lang/invoke/MethodHandle" ∧ Mc.1.cls ≠ "java/lang/invoke/VarHandle" ∧ (parseMethodDescriptor Mc.1.desc).map (fun d => d.parameters.length) = some n) ∧ Mc.2.2.1 ≤ 17
theorem room_ok (hE : Ok K E Mi d) (hdc : Nat.blt dc d = true) (hm : Mc.2.2.1 ≤ 17) : (rmD dc).frames + 1 ≤ (eR E).frames ∧ 8 + (Mc.2.2.1 + 11) + (rmD dc).locals ≤ (eR E).locals := by
  obtain ⟨h1, h2, -, -⟩ := hE.2.2.2.2.2.2.1
  have h3 : dc + 1 ≤ d := Nat.le_of_ble_eq_true hdc
  show dc + 1 ≤ _ ∧ 8 + (Mc.2.2.1 + 11) + 36 * dc ≤ _
  omega
theorem run_S (hE : Ok K E Mi d) (hlk : Cond.methodLink Mi.1.cls idx Mc.1 ∈ TW) (hst : Cond.static Mc.1 ∈ TW) (hini : Cond.initialized Mc.1.cls ∈ TW) (hco : Cond.code Mc.1 Mc.2.1 Mc.2.2.1 Mc.2.2.2 ∈ TW) (hnm : NmOk Mc n) (hdc : Nat.blt dc d = true) (hn : As.length = n) (h8 : Nat.ble (rest.map fun v => v.category).sum 8 = true)
    (hM : ∀ l : Launch, Met l Mc.1 (wsM Mc) (rmD dc) (PcK K As σ) Qc 0 0 (Own K)) (hd : decode Mi.2.1 pc = .ok (.invokestatic idx, 3)) {H : Heap} {locs : List Loc} {ls : Array Slot} (hP : va_P K.1 vwCl (wld K σ) H) (hS : va_S (eA E) (eS E).heap H locs) (hl : lv_has ls Mi.2.2.1 (al 0 L)) :
    va_Run (eP E) (eL E) (eE E) (eR E) (eS E) (eM E) (eG E) (eB E) (eT E) (eC E) H locs (eX E) (eY E) 0 0 (F0 (eM E) pc ls (As.reverse ++ rest)) rest (Qc As.toArray) (Own K) :=
  va_runS (g := F0 (eM E) pc ls (As.reverse ++ rest)) ⟨hE.1, hE.2.1, hE.2.2.1, hE.2.2.2.1, hE.2.2.2.2.1⟩ (hM (eL E)) ⟨callB_of n hE.2.2.2.2.1 (wsM_good hco) rfl rfl rfl (hE.2.2.2.2.1 _ hini) (hE.2.2.2.2.1 _ hlk) hnm.1 (room_ok hE hdc hnm.2), hE.2.2.2.2.1 _ hst⟩
    ⟨PcK_blind, fun U hU hW => ⟨rfl, by rw [hU]; exact hP, KU_pass hE hS hU hW⟩⟩ rfl hn hl.1 rfl (lv_room (Nat.le_of_ble_eq_true h8)) hd ⟨hE.2.2.2.2.2.2.1.2.2.1, hE.2.2.2.2.2.2.1.2.2.2⟩
theorem run_SN {host : String} (hE : Ok K E Mi d) (hlk : Cond.methodLinkNest Mi.1.cls idx Mc.1 host ∈ nwL) (hst : Cond.static Mc.1 ∈ TW) (hini : Cond.initialized Mc.1.cls ∈ TW) (hco : Cond.code Mc.1 Mc.2.1 Mc.2.2.1 Mc.2.2.2 ∈ TW) (hnm : NmOk Mc n) (hdc : Nat.blt dc d = true) (hn : As.length = n) (h8 : Nat.ble (rest.map fun v => v.category).sum 8 = true)
    (hM : ∀ l : Launch, Met l Mc.1 (wsM Mc) (rmD dc) (PcK K As σ) Qc 0 0 (Own K)) (hd : decode Mi.2.1 pc = .ok (.invokestatic idx, 3)) {H : Heap} {locs : List Loc} {ls : Array Slot} (hP : va_P K.1 vwCl (wld K σ) H) (hS : va_S (eA E) (eS E).heap H locs) (hl : lv_has ls Mi.2.2.1 (al 0 L)) :
    va_Run (eP E) (eL E) (eE E) (eR E) (eS E) (eM E) (eG E) (eB E) (eT E) (eC E) H locs (eX E) (eY E) 0 0 (F0 (eM E) pc ls (As.reverse ++ rest)) rest (Qc As.toArray) (Own K) :=
  va_runSN (g := F0 (eM E) pc ls (As.reverse ++ rest)) ⟨hE.1, hE.2.1, hE.2.2.1, hE.2.2.2.1, hE.2.2.2.2.1⟩ (hM (eL E)) ⟨va_cnB n hE.2.2.2.2.1 (wsM_good hco) rfl rfl rfl (hE.2.2.2.2.2.1.2.1 _ hlk) (hE.2.2.2.2.1 _ hini) hnm.1 (room_ok hE hdc hnm.2), hE.2.2.2.2.1 _ hst, trivial⟩
    ⟨PcK_blind, fun U hU hW => ⟨rfl, by rw [hU]; exact hP, KU_pass hE hS hU hW⟩⟩ rfl hn hl.1 rfl (lv_room (Nat.le_of_ble_eq_true h8)) hd ⟨hE.2.2.2.2.2.2.1.2.2.1, hE.2.2.2.2.2.2.1.2.2.2⟩
theorem run_V {k ci N : Nat} {fs : List (Nat × Nat)} {T : u_T} (hE : Ok K E Mi d) (hs : sh k = (3, ci, fs)) (hc : vwCl[ci]? = some (Mc.1.cls, T, N)) (hlk : Cond.methodLink Mi.1.cls idx Mc.1 ∈ TW) (hin : Cond.instanceMethod Mc.1 ∈ TW) (hse : Cond.selects Mc.1.cls Mc.1 Mc.1 ∈ TW) (hini : Cond.initialized Mc.1.cls ∈ TW) (hco : Cond.code Mc.1 Mc.2.1 Mc.2.2.1 Mc.2.2.2 ∈ TW) (hnm : NmOk Mc n) (hdc : Nat.blt dc d = true) (hn : As.length = n) (h8 : Nat.ble (rest.map fun v => v.category).sum 8 = true)
    (hM : ∀ l : Launch, Met l Mc.1 (wsM Mc) (rmD dc) (PcK K (.ref (kA K k) :: As) σ) Qc 0 0 (Own K)) (hd : decode Mi.2.1 pc = .ok (.invokevirtual idx, 3)) {H : Heap} {locs : List Loc} {ls : Array Slot} (hP : va_P K.1 vwCl (wld K σ) H) (hS : va_S (eA E) (eS E).heap H locs) (hl : lv_has ls Mi.2.2.1 (al 0 L)) :
    va_Run (eP E) (eL E) (eE E) (eR E) (eS E) (eM E) (eG E) (eB E) (eT E) (eC E) H locs (eX E) (eY E) 0 0 (F0 (eM E) pc ls (As.reverse ++ .ref (kA K k) :: rest)) rest (Qc (Value.ref (kA K k) :: As).toArray) (Own K) := by
  have hk := sh_lt hs (Or.inl (by decide))
  exact va_runV (g := F0 (eM E) pc ls (As.reverse ++ .ref (kA K k) :: rest)) ⟨hE.1, hE.2.1, hE.2.2.1, hE.2.2.2.1, hE.2.2.2.2.1⟩ (hM (eL E)) ⟨callB_of n hE.2.2.2.2.1 (wsM_good hco) rfl rfl rfl (hE.2.2.2.2.1 _ hini) (hE.2.2.2.2.1 _ hlk) hnm.1 (room_ok hE hdc hnm.2), hE.2.2.2.2.1 _ hin, hE.2.2.2.2.1 _ hse⟩
    ⟨PcK_blind, va_recv hE.2.2.2.2.2.1.1 hP hc (fs := fs.map (fv K σ)) (q0 := k) (by rw [wld_get K σ hk, ent, hs]; rfl), fun U hU hW => ⟨rfl, by rw [hU]; exact hP, KU_pass hE hS hU hW⟩⟩ rfl hn hl.1 rfl (lv_room (Nat.le_of_ble_eq_true h8)) hd ⟨hE.2.2.2.2.2.2.1.2.2.1, hE.2.2.2.2.2.2.1.2.2.2⟩
theorem run_VN {host : String} {k ci N : Nat} {fs : List (Nat × Nat)} {T : u_T} (hE : Ok K E Mi d) (hs : sh k = (3, ci, fs)) (hc : vwCl[ci]? = some (Mc.1.cls, T, N)) (hlk : Cond.methodLinkNest Mi.1.cls idx Mc.1 host ∈ nwL) (hin : Cond.instanceMethod Mc.1 ∈ TW) (hse : Cond.selects Mc.1.cls Mc.1 Mc.1 ∈ TW) (hini : Cond.initialized Mc.1.cls ∈ TW) (hco : Cond.code Mc.1 Mc.2.1 Mc.2.2.1 Mc.2.2.2 ∈ TW) (hnm : NmOk Mc n) (hdc : Nat.blt dc d = true) (hn : As.length = n) (h8 : Nat.ble (rest.map fun v => v.category).sum 8 = true)
    (hM : ∀ l : Launch, Met l Mc.1 (wsM Mc) (rmD dc) (PcK K (.ref (kA K k) :: As) σ) Qc 0 0 (Own K)) (hd : decode Mi.2.1 pc = .ok (.invokevirtual idx, 3)) {H : Heap} {locs : List Loc} {ls : Array Slot} (hP : va_P K.1 vwCl (wld K σ) H) (hS : va_S (eA E) (eS E).heap H locs) (hl : lv_has ls Mi.2.2.1 (al 0 L)) :
    va_Run (eP E) (eL E) (eE E) (eR E) (eS E) (eM E) (eG E) (eB E) (eT E) (eC E) H locs (eX E) (eY E) 0 0 (F0 (eM E) pc ls (As.reverse ++ .ref (kA K k) :: rest)) rest (Qc (Value.ref (kA K k) :: As).toArray) (Own K) := by
  have hk := sh_lt hs (Or.inl (by decide))
  exact va_runVN (g := F0 (eM E) pc ls (As.reverse ++ .ref (kA K k) :: rest)) ⟨hE.1, hE.2.1, hE.2.2.1, hE.2.2.2.1, hE.2.2.2.2.1⟩ (hM (eL E)) ⟨va_cnB n hE.2.2.2.2.1 (wsM_good hco) rfl rfl rfl (hE.2.2.2.2.2.1.2.1 _ hlk) (hE.2.2.2.2.1 _ hini) hnm.1 (room_ok hE hdc hnm.2), hE.2.2.2.2.1 _ hin, hE.2.2.2.2.1 _ hse⟩
    ⟨PcK_blind, va_recv hE.2.2.2.2.2.1.1 hP hc (fs := fs.map (fv K σ)) (q0 := k) (by rw [wld_get K σ hk, ent, hs]; rfl), fun U hU hW => ⟨rfl, by rw [hU]; exact hP, KU_pass hE hS hU hW⟩⟩ rfl hn hl.1 rfl (lv_room (Nat.le_of_ble_eq_true h8)) hd ⟨hE.2.2.2.2.2.2.1.2.2.1, hE.2.2.2.2.2.2.1.2.2.2⟩
abbrev Runs (K : Ctx) (E : ME) (Mi : MI) (pc : Nat) (L : List (Option Value)) (st rest : List Value) (σ : Sto) (Qa : State → Outcome → State → Prop) : Prop := ∀ {H : Heap} {locs : List Loc} {ls : Array Slot}, va_P K.1 vwCl (wld K σ) H → va_S (eA E) (eS E).heap H locs → lv_has ls Mi.2.2.1 (al 0 L) → va_Run (eP E) (eL E) (eE E) (eR E) (eS E) (eM E) (eG E) (eB E) (eT E) (eC E) H locs (eX E) (eY E) 0 0 (F0 (eM E) pc ls st) rest Qa (Own K)
theorem V_callI {post : Int → Sto → Prop} {st : List Value} {a : Array Value} (hE : Ok K E Mi d) (hr : Runs K E Mi pc L st rest σ (QcI K post a)) (kk : ∀ (r : Int) (σ' : Sto), post r σ' → V K E Mi (pc + 3) L (.int (i32 r) :: rest) σ') : V K E Mi pc L st σ :=
  fun H locs ls hP hS hl => va_calli (hr hP hS hl) hS (fun q _ h => hE.2.2.2.2.2.2.2 q h) hE.2.2.2.2.2.2.2 (fun r u t H1 locs1 ht hvm hp hB hz hk hS1 => by
    obtain ⟨rfl, hp⟩ := hp
    subst ht
    exact kk u.1 u.2 hp t.heap locs1 ls hB hS1 hl)
theorem V_callL {post : Int → Sto → Prop} {st : List Value} {a : Array Value} (hE : Ok K E Mi d) (hr : Runs K E Mi pc L st rest σ (QcL K post a)) (kk : ∀ (r : Int) (σ' : Sto), post r σ' → V K E Mi (pc + 3) L (.long (i64 r) :: rest) σ') : V K E Mi pc L st σ :=
  fun H locs ls hP hS hl => va_calll (hr hP hS hl) hS (fun q _ h => hE.2.2.2.2.2.2.2 q h) hE.2.2.2.2.2.2.2 (fun r u t H1 locs1 ht hvm hp hB hz hk hS1 => by
    obtain ⟨rfl, hp⟩ := hp
    subst ht
    exact kk u.1 u.2 hp t.heap locs1 ls hB hS1 hl)
theorem V_callV {post : Sto → Prop} {st : List Value} {a : Array Value} (hE : Ok K E Mi d) (hr : Runs K E Mi pc L st rest σ (QcV K post a)) (kk : ∀ σ' : Sto, post σ' → V K E Mi (pc + 3) L rest σ') : V K E Mi pc L st σ :=
  fun H locs ls hP hS hl => va_callv (hr hP hS hl) hS (fun q _ h => hE.2.2.2.2.2.2.2 q h) hE.2.2.2.2.2.2.2 (fun u t H1 locs1 ht hvm hp hB hz hk hS1 => by
    subst ht
    exact kk u hp t.heap locs1 ls hB hS1 hl)
/-! the JDK's: Math, arraycopy -/
theorem V_max (hE : Ok K E Mi d) {a b : Int} (hlk : Cond.methodLink Mi.1.cls idx Lib.Math.max.name ∈ TW) (hd : decode Mi.2.1 pc = .ok (.invokestatic idx, 3)) (h1 : Nat.blt 0 d = true) (h8 : Nat.ble (rest.map fun v => v.category).sum 8 = true) (hr : InI a ∧ InI b) (kk : V K E Mi (pc + 3) L (.int (i32 (max a b)) :: rest) σ) : V K E Mi pc L (.int (i32 b) :: .int (i32 a) :: rest) σ := by
  intro H locs ls hP hS hl
  have h1 : 1 ≤ d := Nat.le_of_ble_eq_true h1
  have h8 := Nat.le_of_ble_eq_true h8
  obtain ⟨r1, r2, r3, r4⟩ := hE.2.2.2.2.2.2.1
  refine va_mmax hE.1 hE.2.1 (hE.2.2.1.trans hl.1.symm) hE.2.2.2.1 (hE.2.2.2.2.1 _ hlk) (hE.2.2.2.2.1 _ tw_max_static) (hE.2.2.2.2.1 _ tw_math_init) (hE.2.2.2.2.1 _ tw_max_code) (by omega) (by omega) r3 r4 hd ?_
  have e : (if i32 a < i32 b then i32 b else i32 a) = i32 (max a b) := by
    by_cases h : a < b
    · rw [if_pos ((i32_lt hr.1 hr.2).mpr h), Int.max_eq_right (by omega)]
    · rw [if_neg (fun q => h ((i32_lt hr.1 hr.2).mp q)), Int.max_eq_left (by omega)]
  rw [e]
  exact kk H locs ls hP hS hl
theorem V_min (hE : Ok K E Mi d) {a b : Int} (hlk : Cond.methodLink Mi.1.cls idx Lib.Math.min.name ∈ TW) (hd : decode Mi.2.1 pc = .ok (.invokestatic idx, 3)) (h1 : Nat.blt 0 d = true) (h8 : Nat.ble (rest.map fun v => v.category).sum 8 = true) (hr : InI a ∧ InI b) (kk : V K E Mi (pc + 3) L (.int (i32 (min a b)) :: rest) σ) : V K E Mi pc L (.int (i32 b) :: .int (i32 a) :: rest) σ := by
  intro H locs ls hP hS hl
  have h1 : 1 ≤ d := Nat.le_of_ble_eq_true h1
  have h8 := Nat.le_of_ble_eq_true h8
  obtain ⟨r1, r2, r3, r4⟩ := hE.2.2.2.2.2.2.1
  refine va_mmin hE.1 hE.2.1 (hE.2.2.1.trans hl.1.symm) hE.2.2.2.1 (hE.2.2.2.2.1 _ hlk) (hE.2.2.2.2.1 _ tw_min_static) (hE.2.2.2.2.1 _ tw_math_init) (hE.2.2.2.2.1 _ tw_min_code) (by omega) (by omega) r3 r4 hd ?_
  have e : (if i32 b < i32 a then i32 b else i32 a) = i32 (min a b) := by
    by_cases h : b < a
    · rw [if_pos ((i32_lt hr.2 hr.1).mpr h), Int.min_eq_right (by omega)]
    · rw [if_neg (fun q => h ((i32_lt hr.2 hr.1).mp q)), Int.min_eq_left (by omega)]
  rw [e]
  exact kk H locs ls hP hS hl
theorem V_abs (hE : Ok K E Mi d) {a : Int} (hlk : Cond.methodLink Mi.1.cls idx Lib.Math.abs.name ∈ TW) (hd : decode Mi.2.1 pc = .ok (.invokestatic idx, 3)) (h1 : Nat.blt 0 d = true) (h8 : Nat.ble (rest.map fun v => v.category).sum 8 = true) (hr : InI a) (kk : V K E Mi (pc + 3) L (.int (i32 ((a.natAbs : Nat) : Int)) :: rest) σ) : V K E Mi pc L (.int (i32 a) :: rest) σ := by
  intro H locs ls hP hS hl
  have h1 : 1 ≤ d := Nat.le_of_ble_eq_true h1
  have h8 := Nat.le_of_ble_eq_true h8
  obtain ⟨r1, r2, r3, r4⟩ := hE.2.2.2.2.2.2.1
  refine va_mabs hE.1 hE.2.1 (hE.2.2.1.trans hl.1.symm) hE.2.2.2.1 (hE.2.2.2.2.1 _ hlk) (hE.2.2.2.2.1 _ tw_abs_static) (hE.2.2.2.2.1 _ tw_math_init) (hE.2.2.2.2.1 _ tw_abs_code) (by omega) (by omega) r3 r4 hd ?_
  have e0 : (0 : Int32) ≤ i32 a ↔ 0 ≤ a := i32_le (a := 0) ⟨by omega, by omega⟩ hr
  have e : (if 0 ≤ i32 a then i32 a else 0 - i32 a) = i32 ((a.natAbs : Nat) : Int) := by
    by_cases h : 0 ≤ a
    · rw [if_pos (e0.mpr h)]; congr 1; omega
    · rw [if_neg (fun q => h (e0.mp q)), show (0 : Int32) = i32 0 from rfl, ← Int32.ofInt_sub]; congr 1; omega
  rw [e]
  exact kk H locs ls hP hS hl
theorem V_absL (hE : Ok K E Mi d) {a : Int} (hlk : Cond.methodLink Mi.1.cls idx Lib.MathLoose.abs_long.x ∈ TW) (hd : decode Mi.2.1 pc = .ok (.invokestatic idx, 3)) (h1 : Nat.blt 0 d = true) (h8 : Nat.ble (rest.map fun v => v.category).sum 8 = true) (hr : InL a) (kk : V K E Mi (pc + 3) L (.long (i64 ((a.natAbs : Nat) : Int)) :: rest) σ) : V K E Mi pc L (.long (i64 a) :: rest) σ := by
  intro H locs ls hP hS hl
  have h1 : 1 ≤ d := Nat.le_of_ble_eq_true h1
  have h8 := Nat.le_of_ble_eq_true h8
  obtain ⟨r1, r2, r3, r4⟩ := hE.2.2.2.2.2.2.1
  refine va_mabs_long hE.1 hE.2.1 (hE.2.2.1.trans hl.1.symm) hE.2.2.2.1 (hE.2.2.2.2.1 _ hlk) (hE.2.2.2.2.1 _ tw_absL_static) (hE.2.2.2.2.1 _ tw_math_init) (hE.2.2.2.2.1 _ tw_absL_code) (by omega) (by omega) r3 r4 hd ?_
  have e0 : (0 : Int64) < i64 a ↔ 0 < a := i64_lt (a := 0) ⟨by omega, by omega⟩ hr
  have e : (if 0 < i64 a then i64 a else -i64 a) = i64 ((a.natAbs : Nat) : Int) := by
    by_cases h : 0 < a
    · rw [if_pos (e0.mpr h)]; congr 1; omega
    · rw [if_neg (fun q => h (e0.mp q)), ← Int64.ofInt_neg]; congr 1; omega
  rw [e]
  exact kk H locs ls hP hS hl
theorem copy_ent {k : Nat} (h : k ≠ 6) : ent K (fun k i => if k = 6 ∧ i < 63 then σ 8 i else σ k i) k = ent K σ k := by
  have e1 : ∀ i, (fun k i => if k = 6 ∧ i < 63 then σ 8 i else σ k i : Sto) k i = σ k i := fun i => by simp [h]
  have key : ∀ S : Nat × Nat × List (Nat × Nat), (∀ f ∈ S.2.2, f.1 = 0 ∨ f.2 ≠ 6) → entOf K (fun k i => if k = 6 ∧ i < 63 then σ 8 i else σ k i) k S = entOf K σ k S := by
    intro S hf
    obtain ⟨a, n, fs⟩ := S
    match a with
    | 0 => simp only [entOf, e1]
    | 1 => simp only [entOf, e1]
    | 2 => simp only [entOf, e1]
    | a + 3 =>
      simp only [entOf]
      congr 2
      refine List.map_congr_left (fun f h => ?_)
      obtain ⟨x, y⟩ := f
      have h2 := hf _ h
      match x, h2 with
      | 0, _ => rfl
      | 1, h2 =>
        have h2 : y ≠ 6 := by simpa using h2
        simp [fv, h2]
      | x + 2, h2 =>
        have h2 : y ≠ 6 := by simpa using h2
        simp [fv, h2]
  refine key (sh k) (fun f hf => ?_)
  rcases Nat.lt_or_ge k 32 with h3 | h3
  · exact (sh_ids k h3 f hf).imp id (fun h2 => by omega)
  · obtain ⟨j, rfl⟩ : ∃ j, k = j + 32 := ⟨k - 32, by omega⟩
    rw [show sh (j + 32) = (0, 0, []) from rfl] at hf
    simp at hf
theorem V_copy (hE : Ok K E Mi d) (hlk : Cond.methodLink Mi.1.cls idx arraycopyName ∈ TW) (hd : decode Mi.2.1 pc = .ok (.invokestatic idx, 3)) (h1 : Nat.blt 0 d = true) (h8 : Nat.ble (rest.map fun v => v.category).sum 8 = true) (kk : V K E Mi (pc + 3) L rest (fun k i => if k = 6 ∧ i < 63 then σ 8 i else σ k i)) : V K E Mi pc L (.int (i32 63) :: .int (i32 0) :: .ref (kA K 6) :: .int (i32 0) :: .ref (kA K 8) :: rest) σ := by
  intro H locs ls hP hS hl
  have h1 : 1 ≤ d := Nat.le_of_ble_eq_true h1
  have h8 := Nat.le_of_ble_eq_true h8
  obtain ⟨r1, r2, r3, r4⟩ := hE.2.2.2.2.2.2.1
  refine va_copyi (f := fun i => i32 (σ 8 i)) (g := fun i => i32 (σ 6 i)) (ty := .int) hE.1 hE.2.1 (hE.2.2.1.trans hl.1.symm) hE.2.2.2.1 (hE.2.2.2.2.1 _ hlk) (hE.2.2.2.2.1 _ tw_copy_native) (hE.2.2.2.2.1 _ tw_copy_static) (hE.2.2.2.2.1 _ tw_sys_init) hE.2.2.2.2.2.1.1 hP (wld_D hE.2.2.2.2.2.1.2.2.2 hE.2.2.2.2.2.2.2 σ) hS 8 6 0 0
    (by rw [wld_get K σ (by decide), ent_int (n := 63) rfl]) (by rw [wld_get K σ (by decide), ent_int (n := 63) rfl]) rfl rfl rfl (by decide) (by decide) (by decide) (by decide) (by decide) (fun _ _ => rfl) (by omega) (by
      have e : nativeFrameWords "java/lang/System" "arraycopy" 5 + 11 ≤ 28 := by decide +kernel
      omega) hd ?_
  rw [wld_set (σ' := fun k i => if k = 6 ∧ i < 63 then σ 8 i else σ k i) (by decide) (fun k _ h => copy_ent h) (by
    rw [ent_int (n := 63) rfl]
    congr 4
    funext j
    rw [show (i32 0).toNatClampNeg = 0 from rfl, show (i32 63).toNatClampNeg = 63 from rfl]
    by_cases hj : j < 63 <;> simp [va_cpy, hj])]
  exact fun H1 locs1 h1 _ h3 => kk H1 locs1 ls h1 h3 hl
end VRUN
end
section
theorem zz_dummy : True := trivial
end
