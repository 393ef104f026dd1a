section
-- ===== PART A: goes FIRST, ahead of the names: the tables' words, and 'selects' of the private methods out of them =====
/-- a private method of a class that the tables say can be made, by its rows of tables_1 -/
def lw_okq (q : MethodName × Nat) : Prop := (q.1.cls ≠ "java/lang/invoke/MethodHandle" ∧ q.1.cls ≠ "java/lang/invoke/VarHandle") ∧ Cond.instantiable q.1.cls q.2 ∈ tables_1 ∧ Cond.privateMethod q.1 ∈ tables_1 ∧ Cond.instanceMethod q.1 ∈ tables_1
theorem lw_p0 : lw_okq (⟨"BeadParley$Barter", "findBest", "([[I)V"⟩, 6) := ⟨⟨by decide +kernel, by decide +kernel⟩, List.mem_of_getElem? (i := 45) (by decide +kernel), List.mem_of_getElem? (i := 132) (by decide +kernel), List.mem_of_getElem? (i := 133) (by decide +kernel)⟩
theorem lw_p1 : lw_okq (⟨"BeadParley$Barter", "markReady", "([[I)V"⟩, 6) := ⟨⟨by decide +kernel, by decide +kernel⟩, List.mem_of_getElem? (i := 45) (by decide +kernel), List.mem_of_getElem? (i := 136) (by decide +kernel), List.mem_of_getElem? (i := 137) (by decide +kernel)⟩
theorem lw_p2 : lw_okq (⟨"BeadParley$Barter", "hasWish", "(I)Z"⟩, 6) := ⟨⟨by decide +kernel, by decide +kernel⟩, List.mem_of_getElem? (i := 45) (by decide +kernel), List.mem_of_getElem? (i := 140) (by decide +kernel), List.mem_of_getElem? (i := 141) (by decide +kernel)⟩
theorem lw_p3 : lw_okq (⟨"BeadParley$Barter", "getsFrom", "(II)Z"⟩, 6) := ⟨⟨by decide +kernel, by decide +kernel⟩, List.mem_of_getElem? (i := 45) (by decide +kernel), List.mem_of_getElem? (i := 147) (by decide +kernel), List.mem_of_getElem? (i := 148) (by decide +kernel)⟩
theorem lw_p4 : lw_okq (⟨"BeadParley$Barter", "isInRow", "(II)Z"⟩, 6) := ⟨⟨by decide +kernel, by decide +kernel⟩, List.mem_of_getElem? (i := 45) (by decide +kernel), List.mem_of_getElem? (i := 154) (by decide +kernel), List.mem_of_getElem? (i := 155) (by decide +kernel)⟩
theorem lw_p5 : lw_okq (⟨"BeadParley$Barter", "longestByOrders", "([[I)I"⟩, 6) := ⟨⟨by decide +kernel, by decide +kernel⟩, List.mem_of_getElem? (i := 45) (by decide +kernel), List.mem_of_getElem? (i := 162) (by decide +kernel), List.mem_of_getElem? (i := 163) (by decide +kernel)⟩
theorem lw_p6 : lw_okq (⟨"BeadParley$Barter", "longestAtStartOfRow", "(I)I"⟩, 6) := ⟨⟨by decide +kernel, by decide +kernel⟩, List.mem_of_getElem? (i := 45) (by decide +kernel), List.mem_of_getElem? (i := 166) (by decide +kernel), List.mem_of_getElem? (i := 167) (by decide +kernel)⟩
theorem lw_p7 : lw_okq (⟨"BeadParley$Barter", "nextOrder", "(I)Z"⟩, 6) := ⟨⟨by decide +kernel, by decide +kernel⟩, List.mem_of_getElem? (i := 45) (by decide +kernel), List.mem_of_getElem? (i := 173) (by decide +kernel), List.mem_of_getElem? (i := 174) (by decide +kernel)⟩
theorem lw_p8 : lw_okq (⟨"BeadParley$Barter", "swap", "(II)V"⟩, 6) := ⟨⟨by decide +kernel, by decide +kernel⟩, List.mem_of_getElem? (i := 45) (by decide +kernel), List.mem_of_getElem? (i := 177) (by decide +kernel), List.mem_of_getElem? (i := 178) (by decide +kernel)⟩
theorem lw_p9 : lw_okq (⟨"BeadParley$Barter", "exchange", "([[I)V"⟩, 6) := ⟨⟨by decide +kernel, by decide +kernel⟩, List.mem_of_getElem? (i := 45) (by decide +kernel), List.mem_of_getElem? (i := 185) (by decide +kernel), List.mem_of_getElem? (i := 186) (by decide +kernel)⟩
theorem lw_p10 : lw_okq (⟨"java/lang/Throwable", "fillInStackTrace", "(I)Ljava/lang/Throwable;"⟩, 6) := ⟨⟨by decide +kernel, by decide +kernel⟩, List.mem_of_getElem? (i := 240) (by decide +kernel), List.mem_of_getElem? (i := 238) (by decide +kernel), List.mem_of_getElem? (i := 239) (by decide +kernel)⟩
theorem lw_p11 : lw_okq (⟨"BeadParley", "isBelt", "(I)Z"⟩, 15) := ⟨⟨by decide +kernel, by decide +kernel⟩, List.mem_of_getElem? (i := 15) (by decide +kernel), List.mem_of_getElem? (i := 332) (by decide +kernel), List.mem_of_getElem? (i := 333) (by decide +kernel)⟩
theorem lw_p12 : lw_okq (⟨"BeadParley$Grid", "cellsOf", "(I)I"⟩, 3) := ⟨⟨by decide +kernel, by decide +kernel⟩, List.mem_of_getElem? (i := 25) (by decide +kernel), List.mem_of_getElem? (i := 336) (by decide +kernel), List.mem_of_getElem? (i := 337) (by decide +kernel)⟩
theorem lw_p13 : lw_okq (⟨"BeadParley$Grid", "size", "()I"⟩, 3) := ⟨⟨by decide +kernel, by decide +kernel⟩, List.mem_of_getElem? (i := 25) (by decide +kernel), List.mem_of_getElem? (i := 340) (by decide +kernel), List.mem_of_getElem? (i := 341) (by decide +kernel)⟩
theorem lw_p14 : lw_okq (⟨"BeadParley$Grid", "begin", "(II)V"⟩, 3) := ⟨⟨by decide +kernel, by decide +kernel⟩, List.mem_of_getElem? (i := 25) (by decide +kernel), List.mem_of_getElem? (i := 358) (by decide +kernel), List.mem_of_getElem? (i := 359) (by decide +kernel)⟩
theorem lw_p15 : lw_okq (⟨"BeadParley$Grid", "hasCell", "(II)Z"⟩, 3) := ⟨⟨by decide +kernel, by decide +kernel⟩, List.mem_of_getElem? (i := 25) (by decide +kernel), List.mem_of_getElem? (i := 371) (by decide +kernel), List.mem_of_getElem? (i := 372) (by decide +kernel)⟩
def lw_privs_1 : List (MethodName × Nat) := [(⟨"BeadParley$Barter", "findBest", "([[I)V"⟩, 6), (⟨"BeadParley$Barter", "markReady", "([[I)V"⟩, 6), (⟨"BeadParley$Barter", "hasWish", "(I)Z"⟩, 6), (⟨"BeadParley$Barter", "getsFrom", "(II)Z"⟩, 6), (⟨"BeadParley$Barter", "isInRow", "(II)Z"⟩, 6), (⟨"BeadParley$Barter", "longestByOrders", "([[I)I"⟩, 6), (⟨"BeadParley$Barter", "longestAtStartOfRow", "(I)I"⟩, 6), (⟨"BeadParley$Barter", "nextOrder", "(I)Z"⟩, 6), (⟨"BeadParley$Barter", "swap", "(II)V"⟩, 6), (⟨"BeadParley$Barter", "exchange", "([[I)V"⟩, 6), (⟨"java/lang/Throwable", "fillInStackTrace", "(I)Ljava/lang/Throwable;"⟩, 6), (⟨"BeadParley", "isBelt", "(I)Z"⟩, 15), (⟨"BeadParley$Grid", "cellsOf", "(I)I"⟩, 3), (⟨"BeadParley$Grid", "size", "()I"⟩, 3), (⟨"BeadParley$Grid", "begin", "(II)V"⟩, 3), (⟨"BeadParley$Grid", "hasCell", "(II)Z"⟩, 3)]
theorem lw_r1 : ∀ q ∈ lw_privs_1, lw_okq q := List.forall_mem_cons.mpr ⟨lw_p0, List.forall_mem_cons.mpr ⟨lw_p1, List.forall_mem_cons.mpr ⟨lw_p2, List.forall_mem_cons.mpr ⟨lw_p3, List.forall_mem_cons.mpr ⟨lw_p4, List.forall_mem_cons.mpr ⟨lw_p5, List.forall_mem_cons.mpr ⟨lw_p6, List.forall_mem_cons.mpr ⟨lw_p7, List.forall_mem_cons.mpr ⟨lw_p8, List.forall_mem_cons.mpr ⟨lw_p9, List.forall_mem_cons.mpr ⟨lw_p10, List.forall_mem_cons.mpr ⟨lw_p11, List.forall_mem_cons.mpr ⟨lw_p12, List.forall_mem_cons.mpr ⟨lw_p13, List.forall_mem_cons.mpr ⟨lw_p14, List.forall_mem_cons.mpr ⟨lw_p15, fun _ h => absurd h List.not_mem_nil⟩⟩⟩⟩⟩⟩⟩⟩⟩⟩⟩⟩⟩⟩⟩⟩
theorem lw_p16 : lw_okq (⟨"BeadParley$Grid", "colourAt", "(II)I"⟩, 3) := ⟨⟨by decide +kernel, by decide +kernel⟩, List.mem_of_getElem? (i := 25) (by decide +kernel), List.mem_of_getElem? (i := 376) (by decide +kernel), List.mem_of_getElem? (i := 377) (by decide +kernel)⟩
theorem lw_p17 : lw_okq (⟨"BeadParley$Grid", "paint", "(III)V"⟩, 3) := ⟨⟨by decide +kernel, by decide +kernel⟩, List.mem_of_getElem? (i := 25) (by decide +kernel), List.mem_of_getElem? (i := 380) (by decide +kernel), List.mem_of_getElem? (i := 381) (by decide +kernel)⟩
theorem lw_p18 : lw_okq (⟨"BeadParley$Grid", "copyFrom", "(LBeadParley$Grid;)V"⟩, 3) := ⟨⟨by decide +kernel, by decide +kernel⟩, List.mem_of_getElem? (i := 25) (by decide +kernel), List.mem_of_getElem? (i := 392) (by decide +kernel), List.mem_of_getElem? (i := 393) (by decide +kernel)⟩
theorem lw_p19 : lw_okq (⟨"BeadParley", "checkPattern", "(I)V"⟩, 15) := ⟨⟨by decide +kernel, by decide +kernel⟩, List.mem_of_getElem? (i := 15) (by decide +kernel), List.mem_of_getElem? (i := 404) (by decide +kernel), List.mem_of_getElem? (i := 405) (by decide +kernel)⟩
theorem lw_p20 : lw_okq (⟨"BeadParley$Grid", "hasImage", "(ILBeadParley$Grid;)Z"⟩, 3) := ⟨⟨by decide +kernel, by decide +kernel⟩, List.mem_of_getElem? (i := 25) (by decide +kernel), List.mem_of_getElem? (i := 409) (by decide +kernel), List.mem_of_getElem? (i := 410) (by decide +kernel)⟩
theorem lw_p21 : lw_okq (⟨"BeadParley$Grid", "colourInImage", "(III)I"⟩, 3) := ⟨⟨by decide +kernel, by decide +kernel⟩, List.mem_of_getElem? (i := 25) (by decide +kernel), List.mem_of_getElem? (i := 413) (by decide +kernel), List.mem_of_getElem? (i := 414) (by decide +kernel)⟩
theorem lw_p22 : lw_okq (⟨"BeadParley", "originOf", "(I)I"⟩, 15) := ⟨⟨by decide +kernel, by decide +kernel⟩, List.mem_of_getElem? (i := 15) (by decide +kernel), List.mem_of_getElem? (i := 425) (by decide +kernel), List.mem_of_getElem? (i := 426) (by decide +kernel)⟩
theorem lw_p23 : lw_okq (⟨"BeadParley", "lowestFreeBelt", "()I"⟩, 15) := ⟨⟨by decide +kernel, by decide +kernel⟩, List.mem_of_getElem? (i := 15) (by decide +kernel), List.mem_of_getElem? (i := 443) (by decide +kernel), List.mem_of_getElem? (i := 444) (by decide +kernel)⟩
theorem lw_p24 : lw_okq (⟨"BeadParley", "checkBelt", "(I)V"⟩, 15) := ⟨⟨by decide +kernel, by decide +kernel⟩, List.mem_of_getElem? (i := 15) (by decide +kernel), List.mem_of_getElem? (i := 456) (by decide +kernel), List.mem_of_getElem? (i := 457) (by decide +kernel)⟩
theorem lw_p25 : lw_okq (⟨"BeadParley$Barter", "setWish", "(III)V"⟩, 6) := ⟨⟨by decide +kernel, by decide +kernel⟩, List.mem_of_getElem? (i := 45) (by decide +kernel), List.mem_of_getElem? (i := 491) (by decide +kernel), List.mem_of_getElem? (i := 492) (by decide +kernel)⟩
theorem lw_p26 : lw_okq (⟨"BeadParley$Grid", "placesOf", "(LBeadParley$Grid;)I"⟩, 3) := ⟨⟨by decide +kernel, by decide +kernel⟩, List.mem_of_getElem? (i := 25) (by decide +kernel), List.mem_of_getElem? (i := 527) (by decide +kernel), List.mem_of_getElem? (i := 528) (by decide +kernel)⟩
theorem lw_p27 : lw_okq (⟨"BeadParley$Grid", "shows", "(LBeadParley$Grid;II)Z"⟩, 3) := ⟨⟨by decide +kernel, by decide +kernel⟩, List.mem_of_getElem? (i := 25) (by decide +kernel), List.mem_of_getElem? (i := 531) (by decide +kernel), List.mem_of_getElem? (i := 532) (by decide +kernel)⟩
theorem lw_p28 : lw_okq (⟨"BeadParley", "storyOf", "(I)I"⟩, 15) := ⟨⟨by decide +kernel, by decide +kernel⟩, List.mem_of_getElem? (i := 15) (by decide +kernel), List.mem_of_getElem? (i := 542) (by decide +kernel), List.mem_of_getElem? (i := 543) (by decide +kernel)⟩
theorem lw_p29 : lw_okq (⟨"BeadParley", "rankOf", "(I)I"⟩, 15) := ⟨⟨by decide +kernel, by decide +kernel⟩, List.mem_of_getElem? (i := 15) (by decide +kernel), List.mem_of_getElem? (i := 561) (by decide +kernel), List.mem_of_getElem? (i := 562) (by decide +kernel)⟩
theorem lw_p30 : lw_okq (⟨"BeadParleyModel", "isBelt", "(I)Z"⟩, 26) := ⟨⟨by decide +kernel, by decide +kernel⟩, List.mem_of_getElem? (i := 565) (by decide +kernel), List.mem_of_getElem? (i := 680) (by decide +kernel), List.mem_of_getElem? (i := 681) (by decide +kernel)⟩
theorem lw_p31 : lw_okq (⟨"BeadParleyModel", "needsOf", "(II)I"⟩, 26) := ⟨⟨by decide +kernel, by decide +kernel⟩, List.mem_of_getElem? (i := 565) (by decide +kernel), List.mem_of_getElem? (i := 684) (by decide +kernel), List.mem_of_getElem? (i := 685) (by decide +kernel)⟩
def lw_privs_2 : List (MethodName × Nat) := [(⟨"BeadParley$Grid", "colourAt", "(II)I"⟩, 3), (⟨"BeadParley$Grid", "paint", "(III)V"⟩, 3), (⟨"BeadParley$Grid", "copyFrom", "(LBeadParley$Grid;)V"⟩, 3), (⟨"BeadParley", "checkPattern", "(I)V"⟩, 15), (⟨"BeadParley$Grid", "hasImage", "(ILBeadParley$Grid;)Z"⟩, 3), (⟨"BeadParley$Grid", "colourInImage", "(III)I"⟩, 3), (⟨"BeadParley", "originOf", "(I)I"⟩, 15), (⟨"BeadParley", "lowestFreeBelt", "()I"⟩, 15), (⟨"BeadParley", "checkBelt", "(I)V"⟩, 15), (⟨"BeadParley$Barter", "setWish", "(III)V"⟩, 6), (⟨"BeadParley$Grid", "placesOf", "(LBeadParley$Grid;)I"⟩, 3), (⟨"BeadParley$Grid", "shows", "(LBeadParley$Grid;II)Z"⟩, 3), (⟨"BeadParley", "storyOf", "(I)I"⟩, 15), (⟨"BeadParley", "rankOf", "(I)I"⟩, 15), (⟨"BeadParleyModel", "isBelt", "(I)Z"⟩, 26), (⟨"BeadParleyModel", "needsOf", "(II)I"⟩, 26)]
theorem lw_r2 : ∀ q ∈ lw_privs_2, lw_okq q := List.forall_mem_cons.mpr ⟨lw_p16, List.forall_mem_cons.mpr ⟨lw_p17, List.forall_mem_cons.mpr ⟨lw_p18, List.forall_mem_cons.mpr ⟨lw_p19, List.forall_mem_cons.mpr ⟨lw_p20, List.forall_mem_cons.mpr ⟨lw_p21, List.forall_mem_cons.mpr ⟨lw_p22, List.forall_mem_cons.mpr ⟨lw_p23, List.forall_mem_cons.mpr ⟨lw_p24, List.forall_mem_cons.mpr ⟨lw_p25, List.forall_mem_cons.mpr ⟨lw_p26, List.forall_mem_cons.mpr ⟨lw_p27, List.forall_mem_cons.mpr ⟨lw_p28, List.forall_mem_cons.mpr ⟨lw_p29, List.forall_mem_cons.mpr ⟨lw_p30, List.forall_mem_cons.mpr ⟨lw_p31, fun _ h => absurd h List.not_mem_nil⟩⟩⟩⟩⟩⟩⟩⟩⟩⟩⟩⟩⟩⟩⟩⟩
theorem lw_p32 : lw_okq (⟨"BeadParleyModel", "at", "(III)I"⟩, 26) := ⟨⟨by decide +kernel, by decide +kernel⟩, List.mem_of_getElem? (i := 565) (by decide +kernel), List.mem_of_getElem? (i := 688) (by decide +kernel), List.mem_of_getElem? (i := 689) (by decide +kernel)⟩
theorem lw_p33 : lw_okq (⟨"BeadParleyModel", "isImage", "(IIIZ)Z"⟩, 26) := ⟨⟨by decide +kernel, by decide +kernel⟩, List.mem_of_getElem? (i := 565) (by decide +kernel), List.mem_of_getElem? (i := 708) (by decide +kernel), List.mem_of_getElem? (i := 709) (by decide +kernel)⟩
theorem lw_p34 : lw_okq (⟨"BeadParleyModel", "image", "(IIIIZ)I"⟩, 26) := ⟨⟨by decide +kernel, by decide +kernel⟩, List.mem_of_getElem? (i := 565) (by decide +kernel), List.mem_of_getElem? (i := 712) (by decide +kernel), List.mem_of_getElem? (i := 713) (by decide +kernel)⟩
theorem lw_p35 : lw_okq (⟨"BeadParleyModel", "asks", "(I)Z"⟩, 26) := ⟨⟨by decide +kernel, by decide +kernel⟩, List.mem_of_getElem? (i := 565) (by decide +kernel), List.mem_of_getElem? (i := 724) (by decide +kernel), List.mem_of_getElem? (i := 725) (by decide +kernel)⟩
theorem lw_p36 : lw_okq (⟨"BeadParleyModel", "isPattern", "(I)Z"⟩, 26) := ⟨⟨by decide +kernel, by decide +kernel⟩, List.mem_of_getElem? (i := 565) (by decide +kernel), List.mem_of_getElem? (i := 728) (by decide +kernel), List.mem_of_getElem? (i := 729) (by decide +kernel)⟩
theorem lw_p37 : lw_okq (⟨"BeadParleyModel", "freeBelt", "()I"⟩, 26) := ⟨⟨by decide +kernel, by decide +kernel⟩, List.mem_of_getElem? (i := 565) (by decide +kernel), List.mem_of_getElem? (i := 744) (by decide +kernel), List.mem_of_getElem? (i := 745) (by decide +kernel)⟩
theorem lw_p38 : lw_okq (⟨"BeadParleyModel", "finds", "()I"⟩, 26) := ⟨⟨by decide +kernel, by decide +kernel⟩, List.mem_of_getElem? (i := 565) (by decide +kernel), List.mem_of_getElem? (i := 776) (by decide +kernel), List.mem_of_getElem? (i := 777) (by decide +kernel)⟩
theorem lw_p39 : lw_okq (⟨"BeadParleyModel", "isRow", "(I)Z"⟩, 26) := ⟨⟨by decide +kernel, by decide +kernel⟩, List.mem_of_getElem? (i := 565) (by decide +kernel), List.mem_of_getElem? (i := 780) (by decide +kernel), List.mem_of_getElem? (i := 781) (by decide +kernel)⟩
theorem lw_p40 : lw_okq (⟨"BeadParleyModel", "canGive", "(I)Z"⟩, 26) := ⟨⟨by decide +kernel, by decide +kernel⟩, List.mem_of_getElem? (i := 565) (by decide +kernel), List.mem_of_getElem? (i := 784) (by decide +kernel), List.mem_of_getElem? (i := 785) (by decide +kernel)⟩
theorem lw_p41 : lw_okq (⟨"BeadParleyModel", "standsIn", "(II)I"⟩, 26) := ⟨⟨by decide +kernel, by decide +kernel⟩, List.mem_of_getElem? (i := 565) (by decide +kernel), List.mem_of_getElem? (i := 808) (by decide +kernel), List.mem_of_getElem? (i := 809) (by decide +kernel)⟩
theorem lw_p42 : lw_okq (⟨"BeadParleyModel", "standsAt", "(IIII)Z"⟩, 26) := ⟨⟨by decide +kernel, by decide +kernel⟩, List.mem_of_getElem? (i := 565) (by decide +kernel), List.mem_of_getElem? (i := 812) (by decide +kernel), List.mem_of_getElem? (i := 813) (by decide +kernel)⟩
theorem lw_p43 : lw_okq (⟨"BeadParleyModel", "storyOf", "(I)I"⟩, 26) := ⟨⟨by decide +kernel, by decide +kernel⟩, List.mem_of_getElem? (i := 565) (by decide +kernel), List.mem_of_getElem? (i := 820) (by decide +kernel), List.mem_of_getElem? (i := 821) (by decide +kernel)⟩
def lw_privs_3 : List (MethodName × Nat) := [(⟨"BeadParleyModel", "at", "(III)I"⟩, 26), (⟨"BeadParleyModel", "isImage", "(IIIZ)Z"⟩, 26), (⟨"BeadParleyModel", "image", "(IIIIZ)I"⟩, 26), (⟨"BeadParleyModel", "asks", "(I)Z"⟩, 26), (⟨"BeadParleyModel", "isPattern", "(I)Z"⟩, 26), (⟨"BeadParleyModel", "freeBelt", "()I"⟩, 26), (⟨"BeadParleyModel", "finds", "()I"⟩, 26), (⟨"BeadParleyModel", "isRow", "(I)Z"⟩, 26), (⟨"BeadParleyModel", "canGive", "(I)Z"⟩, 26), (⟨"BeadParleyModel", "standsIn", "(II)I"⟩, 26), (⟨"BeadParleyModel", "standsAt", "(IIII)Z"⟩, 26), (⟨"BeadParleyModel", "storyOf", "(I)I"⟩, 26)]
theorem lw_r3 : ∀ q ∈ lw_privs_3, lw_okq q := List.forall_mem_cons.mpr ⟨lw_p32, List.forall_mem_cons.mpr ⟨lw_p33, List.forall_mem_cons.mpr ⟨lw_p34, List.forall_mem_cons.mpr ⟨lw_p35, List.forall_mem_cons.mpr ⟨lw_p36, List.forall_mem_cons.mpr ⟨lw_p37, List.forall_mem_cons.mpr ⟨lw_p38, List.forall_mem_cons.mpr ⟨lw_p39, List.forall_mem_cons.mpr ⟨lw_p40, List.forall_mem_cons.mpr ⟨lw_p41, List.forall_mem_cons.mpr ⟨lw_p42, List.forall_mem_cons.mpr ⟨lw_p43, fun _ h => absurd h List.not_mem_nil⟩⟩⟩⟩⟩⟩⟩⟩⟩⟩⟩⟩
def lw_privs : List (MethodName × Nat) := lw_privs_1 ++ (lw_privs_2 ++ (lw_privs_3))
def lw_tbl : List Cond := k2_sels lw_privs ++ tables_1
theorem lw_privs_ok : ∀ q ∈ lw_privs, lw_okq q := by
  show ∀ q ∈ lw_privs_1 ++ (lw_privs_2 ++ (lw_privs_3)), lw_okq q
  exact List.forall_mem_append.mpr ⟨lw_r1, List.forall_mem_append.mpr ⟨lw_r2, lw_r3⟩⟩
end
section
/-- the array class over int[] (the printed names speak of it; the kit has it for objects) -/
def va_AOA (ty : FieldType) (U : State) : Prop := (Cond.arrayOver (.array ty)).before #[] U = true
theorem va_AOA.of {ty : FieldType} {A : Array Value} {U : State} (h : (Cond.arrayOver (.array ty)).before A U = true) : va_AOA ty U := h
theorem va_AOA.use {ty : FieldType} {A : Array Value} {U : State} (h : va_AOA ty U) : (Cond.arrayOver (.array ty)).before A U = true := h
/-! ===== BEGIN words of one list among another's, by their places ===== -/
theorem goodIn_r {big : List Cond} (ws : List Cond) (ps : List Nat) (hp : ws = ps.filterMap (fun i => big[i]?)) (h : ws.all goodWord = true) : GoodIn big ws := by
  intro w hw
  have h1 := List.all_eq_true.mp h w hw
  rw [hp] at hw
  obtain ⟨i, -, hi⟩ := List.mem_filterMap.mp hw
  have hm : w ∈ big := by first | exact List.mem_of_getElem? hi | exact List.getElem?_mem hi
  exact ⟨hm, good_of_word h1⟩
theorem goodIn_app {big a b : List Cond} (ha : GoodIn big a) (hb : GoodIn big b) : GoodIn big (a ++ b) := fun w h => (List.mem_append.mp h).elim (ha w) (hb w)
theorem goodIn_ca {big a b : List Cond} {c : Cond} (ha : GoodIn big (c :: a)) (hb : GoodIn big b) : GoodIn big (c :: (a ++ b)) := fun w h => (List.mem_cons.mp h).elim (fun e => ha w (List.mem_cons.mpr (Or.inl e))) (fun h => (List.mem_append.mp h).elim (fun h => ha w (List.mem_cons.mpr (Or.inr h))) (hb w))
theorem goodIn_sub {big ws : List Cond} (hm : ∀ w ∈ ws, w ∈ big) (h : ws.all goodWord = true) : GoodIn big ws := fun w hw => ⟨hm w hw, good_of_word (List.all_eq_true.mp h w hw)⟩
/-! ===== END ===== -/

/-! ===== BEGIN new T[n][m]: the outer array a place, the inner ones among the pooled ===== -/
/-- f, but v at every address of l -/
def vr_up {α : Type} (f : Nat → α) (l : List Nat) (v : α) : Nat → α := fun a => if a ∈ l then v else f a
theorem vr_up_in {α : Type} {f : Nat → α} {l : List Nat} {v : α} {a : Nat} (h : a ∈ l) : vr_up f l v a = v := if_pos h
theorem vr_up_ne {α : Type} {f : Nat → α} {l : List Nat} {v : α} {a : Nat} (h : a ∉ l) : vr_up f l v a = f a := if_neg h
theorem vr_rows {L l : List Nat} {f : Nat → va_E} {e : va_E} (h : ∀ a, a ∈ l → a ∉ L) : va_pl L f ++ l.map (fun a => (a, e)) = va_pl (L ++ l) (vr_up f l e) := by
  unfold va_pl
  rw [List.map_append]
  congr 1
  · apply List.map_congr_left
    intro a ha
    rw [vr_up_ne (fun q => h a q ha)]
  · apply List.map_congr_left
    intro a ha
    rw [vr_up_in ha]
theorem vr_lay {X rows : va_W} {x : Nat × va_E} {pl : va_W} {D : va_G} {cl : List vw_C} {H : Heap} (hP : va_P D cl (((X ++ pl) ++ [x]) ++ rows) H) : va_P D cl ((X ++ [x]) ++ (pl ++ rows)) H := by
  rw [List.append_assoc (X ++ pl)] at hP
  have h := va_P.swap hP
  rw [← List.append_assoc X] at h
  have h2 := va_P.swap h
  rw [List.append_assoc (X ++ [x])] at h2
  exact h2
theorem vr_layD {X rows : va_W} {x : Nat × va_E} {pl : va_W} {A : Nat → Prop} (hD : va_D A (((X ++ pl) ++ [x]) ++ rows)) : va_D A ((X ++ [x]) ++ (pl ++ rows)) := by
  rw [List.append_assoc (X ++ pl)] at hD
  have h := va_D.swap hD
  rw [← List.append_assoc X] at h
  have h2 := va_D.swap h
  rw [List.append_assoc (X ++ [x])] at h2
  exact h2
theorem vr_outer (c : ClassId) (N h0 : Nat) : ∀ i : Nat, Jvm.Free.Multi.outerC c N h0 i = arrV c N (fun j => va_rf (if j < i then some (h0 + 1 + j) else none))
  | 0 => by
    show ({ cls := c, slots := Array.replicate N .null, vm := .none } : Cell) = _
    rw [arrV_new]
    refine congrArg (arrV c N) (funext fun j => ?_)
    simp [va_rf]
  | i + 1 => by
    show (Jvm.Free.Multi.outerC c N h0 i).setSlot i (.ref (h0 + 1 + i)) = _
    rw [vr_outer c N h0 i, arrV_store]
    refine congrArg (arrV c N) (funext fun j => ?_)
    by_cases e : j = i
    · subst e
      simp [updV, va_rf]
    · by_cases h : j < i
      · simp [updV, e, h, Nat.lt_succ_of_lt h]
      · simp [updV, e, h, show ¬ j < i + 1 by omega]
section VGM
variable {p : Program} {l : Launch} {e : Env} {R : Room} {s : State} {m : MethodId} {args : Array Value} {below : List Frame} {meth : Method} {c : Code} {H : Heap} {locs : List Loc} {cells slots : Nat} {Q : State → Prop}
variable {cc : ByteArray} {pc : Nat} {ls : Array Slot} {rest : List Value} {D : va_G} {cl : List vw_C} {A : Nat → Prop} {a : Nat} {tys : List (ClassId × FieldType)} {ws : va_W} {H0 : Heap}
theorem va_mna {X : va_W} {L : List Nat} {f : Nat → va_E} {cc : ByteArray} (hexec : p.tables.exec = Jvm.exec) (hb : c.code = cc) {own : String} {index : Nat} {ty : FieldType} {cy : ClassId} (hown : s.vm.findClass own = some m.cls) (hclink : (Cond.classLink own index ("[" ++ (FieldType.array ty).toString)).before args s = true) (hover : va_AOA ty s) (harr : (Cond.arrayClass ty).before args s = true) (hcy : s.vm.findClass (FieldType.array ty).toString = some cy)
    (hK : va_K D cl tys s) (hP : va_P D cl (X ++ va_pl L f) H) (hD : va_D A (X ++ va_pl L f)) (hS : va_S A H0 H locs) (hA : ∀ q, H0.size ≤ q → A q) {n k : Int32} {N' K' : Nat} {z : vp_A} (hn : ¬ n < 0) (hk : ¬ k < 0) (hN : n.toNatClampNeg = N') (hM : k.toNatClampNeg = K')
    (hb1 : N' * 4 ≤ 536870912) (hb2 : K' * componentBytes ty ≤ 536870912) (hb3 : K' ≤ 536870912) (hdf : fits ty (defaultValue ty) = true) (hdd : (defaultValue ty).isDefault = true) (hcells : cells + (1 + N') ≤ R.cells) (hslots : slots + (N' + N' * K') ≤ R.slots) (hz : ∀ c : ClassId, Jvm.Free.Multi.innerC c K' (defaultValue ty) = vp_cell c z) (hdg : decode cc pc = .ok (.multianewarray index 2, 4))
    (kk : ∀ (q : Nat) (r : Nat → Nat) (cA : ClassId) (H1 : Heap), (∀ i j : Nat, i < N' → j < N' → r i = r j → i = j) → (∀ i : Nat, i < N' → r i ∉ L) → va_K D cl (tys ++ [(cA, .array ty)]) s →
      va_P D cl ((X ++ [(q, .inl (cA, N', .inr (.inr (.inr (.inr (fun i => if i < N' then some (r i) else none))))))]) ++ va_pl (L ++ (List.range N').map r) (vr_up f ((List.range N').map r) (.inl (cy, z)))) H1 → va_D A ((X ++ [(q, .inl (cA, N', .inr (.inr (.inr (.inr (fun i => if i < N' then some (r i) else none))))))]) ++ va_pl (L ++ (List.range N').map r) (vr_up f ((List.range N').map r) (.inl (cy, z)))) → va_S A H0 H1 locs →
      W p l e R s m args below meth c H1 locs (cells + 1 + N') (slots + N' + N' * K') Q (F0 m (pc + 4) ls (.ref q :: rest))) : W p l e R s m args below meth c H locs cells slots Q (F0 m pc ls (.int k :: .int n :: rest)) := by
  subst hN
  subst hM
  intro T hT Xs
  obtain ⟨vm₁, cA, comp, -, fA, fC, hO, -, X', step⟩ := Xs.multianewarray2F hexec hown hclink (va_AOA.use hover) harr (g := F0 m pc ls (.int k :: .int n :: rest)) rfl (by rw [hb]; exact hdg) rfl hn hk hb1 hb2 hb3 hdf hdd hcells hslots
  have ec : some cy = some comp := hcy.symm.trans fC
  cases ec
  generalize hF : Jvm.Free.Multi.fill (T.setVm vm₁) cA cy n.toNatClampNeg k.toNatClampNeg (defaultValue ty) n.toNatClampNeg = F at X' step
  have hTh : (T.setVm vm₁).heap = H := hT
  obtain ⟨f1, f2, -, -⟩ := Jvm.Free.Multi.fill_facts (T.setVm vm₁) cA cy n.toNatClampNeg k.toNatClampNeg (defaultValue ty) n.toNatClampNeg
  rw [hF, hTh] at f1 f2
  have hold : ∀ x : Nat, x < H.size → F.heap[x]? = H[x]? := fun x hx => by
    have := Jvm.Free.Multi.fill_old (T.setVm vm₁) cA cy n.toNatClampNeg k.toNatClampNeg (defaultValue ty) (a := x) (by rw [hTh]; exact hx) n.toNatClampNeg
    rw [hF, hTh] at this
    exact this
  have hrow : ∀ j : Nat, j < n.toNatClampNeg → F.heap[H.size + 1 + j]? = some (vp_cell cy z) := fun j hj => by
    have := Jvm.Free.Multi.fill_inner (T.setVm vm₁) cA cy n.toNatClampNeg k.toNatClampNeg (defaultValue ty) n.toNatClampNeg j hj
    rw [hF, hTh, hz] at this
    exact this
  have hout : Jvm.Free.Multi.outerC cA n.toNatClampNeg H.size n.toNatClampNeg = vp_cell cA (n.toNatClampNeg, .inr (.inr (.inr (.inr (fun i => if i < n.toNatClampNeg then some (H.size + 1 + i) else none))))) := by
    rw [vp_cell_q]
    exact vr_outer cA n.toNatClampNeg H.size n.toNatClampNeg
  rw [hout] at f2
  have hlt : ∀ a, a ∈ L → a < H.size := fun a ha => by
    obtain ⟨k9, hk9⟩ := va_pl_get (X := X) (f := f) ha
    exact (hP k9 _ hk9).lt
  have hnl : ∀ i : Nat, i < n.toNatClampNeg → H.size + 1 + i ∉ L := fun i _ h => by
    have := hlt _ h
    omega
  have hnm : ∀ a, a ∈ (List.range n.toNatClampNeg).map (fun i => H.size + 1 + i) → a ∉ L := fun a ha h => by
    obtain ⟨i, -, rfl⟩ := List.mem_map.mp ha
    have := hlt _ h
    omega
  have hP0 : va_P D cl (X ++ va_pl L f) F.heap := hP.kept (fun k9 x hx => hold x.1 ((hP k9 x hx).lt))
  have hP1 : va_P D cl ((X ++ va_pl L f) ++ [(H.size, .inl (cA, n.toNatClampNeg, .inr (.inr (.inr (.inr (fun i => if i < n.toNatClampNeg then some (H.size + 1 + i) else none))))))]) F.heap := hP0.app (fun k9 x hx => by
    have h0 : k9 < 1 := (List.getElem?_eq_some_iff.mp hx).1
    rw [show k9 = 0 by omega] at hx
    cases hx
    exact f2)
  have hP2 : va_P D cl (((X ++ va_pl L f) ++ [(H.size, .inl (cA, n.toNatClampNeg, .inr (.inr (.inr (.inr (fun i => if i < n.toNatClampNeg then some (H.size + 1 + i) else none))))))]) ++ ((List.range n.toNatClampNeg).map (fun i => H.size + 1 + i)).map (fun a => (a, .inl (cy, z)))) F.heap := hP1.app (fun k9 x hx => by
    obtain ⟨a, ha, rfl⟩ := List.mem_map.mp (List.mem_of_getElem? hx)
    obtain ⟨i, hi, rfl⟩ := List.mem_map.mp ha
    exact hrow i (List.mem_range.mp hi))
  have hD2 : va_D A (((X ++ va_pl L f) ++ [(H.size, .inl (cA, n.toNatClampNeg, .inr (.inr (.inr (.inr (fun i => if i < n.toNatClampNeg then some (H.size + 1 + i) else none))))))]) ++ ((List.range n.toNatClampNeg).map (fun i => H.size + 1 + i)).map (fun a => (a, .inl (cy, z)))) := by
    have hD1 := hD.push (e := .inl (cA, n.toNatClampNeg, .inr (.inr (.inr (.inr (fun i => if i < n.toNatClampNeg then some (H.size + 1 + i) else none)))))) hP rfl (hA _ hS.1)
    generalize hW1 : (X ++ va_pl L f) ++ [(H.size, .inl (cA, n.toNatClampNeg, .inr (.inr (.inr (.inr (fun i => if i < n.toNatClampNeg then some (H.size + 1 + i) else none))))))] = W1 at hD1 hP1 ⊢
    have hle : ∀ (k9 : Nat) (x : Nat × va_E), W1[k9]? = some x → x.1 ≤ H.size := fun k9 x hx => by
      rw [← hW1] at hx
      by_cases hl : k9 < (X ++ va_pl L f).length
      · rw [List.getElem?_append_left hl] at hx
        exact Nat.le_of_lt ((hP k9 x hx).lt)
      · rw [List.getElem?_append_right (by omega)] at hx
        have h0 : k9 - (X ++ va_pl L f).length < 1 := (List.getElem?_eq_some_iff.mp hx).1
        rw [show k9 - (X ++ va_pl L f).length = 0 by omega] at hx
        cases hx
        exact Nat.le_refl _
    have hr : ∀ (k9 : Nat) (x : Nat × va_E), (((List.range n.toNatClampNeg).map (fun i => H.size + 1 + i)).map (fun a => ((a, .inl (cy, z)) : Nat × va_E)))[k9]? = some x → x.1 = H.size + 1 + k9 := fun k9 x hx => by
      rw [List.getElem?_map, List.getElem?_map] at hx
      by_cases h9 : k9 < n.toNatClampNeg
      · rw [List.getElem?_range h9] at hx
        cases hx
        rfl
      · have hn0 : (List.range n.toNatClampNeg)[k9]? = none := List.getElem?_eq_none (by rw [List.length_range]; omega)
        rw [hn0] at hx
        cases hx
    refine ⟨fun i j x y hi hj hxy => ?_, fun k9 x hx => ?_⟩
    · by_cases h1 : i < W1.length <;> by_cases h2 : j < W1.length
      · rw [List.getElem?_append_left h1] at hi
        rw [List.getElem?_append_left h2] at hj
        exact hD1.1 i j x y hi hj hxy
      · rw [List.getElem?_append_left h1] at hi
        rw [List.getElem?_append_right (by omega)] at hj
        have := hle _ _ hi
        have := hr _ _ hj
        omega
      · rw [List.getElem?_append_right (by omega)] at hi
        rw [List.getElem?_append_left h2] at hj
        have := hle _ _ hj
        have := hr _ _ hi
        omega
      · rw [List.getElem?_append_right (by omega)] at hi hj
        have := hr _ _ hi
        have := hr _ _ hj
        omega
    · by_cases h1 : k9 < W1.length
      · rw [List.getElem?_append_left h1] at hx
        exact hD1.2 k9 x hx
      · rw [List.getElem?_append_right (by omega)] at hx
        have := hr _ _ hx
        exact hA _ (by have := hS.1; omega)
  have hAr : ArrOfT s cA (.array ty) := fun N9 z9 => by
    obtain ⟨-, k9, hk9, cm9, hkk9⟩ := (hO 0 0 0).1
    exact ⟨(fun q hq => by cases hq), k9, hk9, cm9, hkk9⟩
  have hK2 : va_K D cl (tys ++ [(cA, .array ty)]) s := ⟨hK.1, fun k9 x hx => by
    by_cases hl : k9 < tys.length
    · rw [List.getElem?_append_left hl] at hx
      exact hK.2 k9 x hx
    · rw [List.getElem?_append_right (by omega)] at hx
      have h0 : k9 - tys.length < 1 := (List.getElem?_eq_some_iff.mp hx).1
      rw [show k9 - tys.length = 0 by omega] at hx
      cases hx
      exact ⟨hAr, fA⟩⟩
  obtain ⟨t, a1, b1⟩ := kk H.size (fun i => H.size + 1 + i) cA F.heap (fun i j _ _ h => by have h9 : H.size + 1 + i = H.size + 1 + j := h; omega) hnl hK2 (by rw [← vr_rows hnm]; exact vr_lay hP2) (by rw [← vr_rows hnm]; exact vr_layD hD2) ⟨by rw [f1]; have := hS.1; omega, fun x h1 h2 => (hold x (Nat.lt_of_lt_of_le h1 hS.1)).trans (hS.2.1 x h1 h2), hS.2.2⟩ F rfl X'
  refine ⟨t, step t ?_, b1⟩
  have e : T.heap.size = H.size := by rw [hT]
  rw [e]
  exact a1
end VGM
/-! ===== END ===== -/

/-! ===== BEGIN exceptions that leave a method, and their catching by the caller (launches without stack traces) ===== -/
section VXA
/-! The laws vx_back, vx_callV, vx_callS, vx_callSW, vx_throw0, vx_throwS follow proofs of the library, with one case more: JvmDerived/Free/Laws.lean (Back.of_free), Shelf42/LK1.lean (callV, callS), Shelf/KitTraced.lean (throwNew0V, throwNewS). -/
/-- where a method has thrown q: the class by its name, the cell, what was written, the world -/
def vx_T (XC : String → State → State → Prop) (st : State) (q : Addr) (t : State) (mc ms : Nat) (free : Addr → Prop) : Prop :=
  ∃ (E : String) (ce : Cell) (L : List Loc), XC E st t ∧ t.heap[q]? = some ce ∧ ce.vm = .none ∧ st.vm.findClass E = some ce.cls ∧ st.WarmedH t.vm ∧ st.sameButNew ({ t with vm := st.vm } : State) L mc ms ∧ ∀ z ∈ L, free z.base
def vx_Q (Qc : Array Value → State → Outcome → State → Prop) (XC : String → State → State → Prop) (mc ms : Nat) (free : Addr → Prop) : Array Value → State → Outcome → State → Prop := fun a st o t =>
  (Qc a st o t ∧ ∃ L, FrameEnd st o t L mc ms ∧ ∀ q ∈ L, free q.base) ∨ ∃ q, o = .threw q ∧ vx_T XC st q t mc ms free
/-- a callee that returns or throws -/
def vx_Met (l : Launch) (y : MethodName) (ws : List Cond) (rm : Room) (Pc : Array Value → State → Prop) (Qc : Array Value → State → Outcome → State → Prop) (XC : String → State → State → Prop) (mc ms : Nat) (free : Addr → Prop) : Prop :=
  MetFree l y (headSpec ws rm) Pc (fun _ _ _ _ _ => True) (vx_Q Qc XC mc ms free)
def vx_Post (XC : String → State → State → Prop) (mc ms : Nat) (free : Addr → Prop) : Pt → Array Value → Addr → Pt → Prop := fun A a q B =>
  ∃ (g : JFrame) (mk : MethodId) (t : State) (L : List Loc) (E : String) (ce : Cell), B.U.heap = t.heap ∧ B.U.vm = t.vm ∧ XC E (A.U.calling g mk a) t ∧ t.heap[q]? = some ce ∧ ce.vm = .none ∧ A.U.vm.findClass E = some ce.cls ∧ B.locs = A.locs ++ L ∧ (∀ z ∈ L, free z.base) ∧ B.cells = A.cells + mc ∧ B.slots = A.slots + ms
def vx_Back (l : Launch) (R : Room) (p : Program) (e : Env) (below : List Frame) (s : State) (sargs : Array Value) (y : MethodName) (len W9 : Nat)
    (Pre : Pt → Array Value → Prop) (Post : Pt → Array Value → Option Value → Pt → Prop) (PostX : Pt → Array Value → Addr → Pt → Prop) : Prop :=
  ∀ (m : MethodId) (meth : Method) (c : Code) (A : Pt) (g : JFrame) (ig : Instr) (mk : MethodId) (a : Array Value),
    Stand p l e R s m sargs below meth c A.U A.locs A.cells A.slots → g.method = m → g.locals.size = c.maxLocals → decode c.code g.pc = .ok (ig, len) →
    2 * g.monitorRoom + (g.stack.map fun v => v.category).sum ≤ W9 → A.U.methodNamed? y = some mk → Pre A a →
    (∃ (v : Option Value) (B : Pt), Stand p l e R s m sargs below meth c B.U B.locs B.cells B.slots ∧ Post A a v B ∧
      Steps p.tables e below (doInvoke e (A.U.setTop g) [] mk a).1 (B.U.setTop { g with pc := g.pc + len, stack := v.toList ++ g.stack })) ∨
    (∃ (q : Addr) (B : Pt), Stand p l e R s m sargs below meth c B.U B.locs B.cells B.slots ∧ PostX A a q B ∧
      Steps p.tables e below (doInvoke e (A.U.setTop g) [] mk a).1 ((B.U.setTop g).pushFrame (.throwing q)))
section Payer
variable {l : Launch} {R : Room} {p : Program} {e : Env} {below : List Frame} {s : State} {sargs : Array Value} {y : MethodName} {len W9 : Nat}
theorem vx_back {ws : List Cond} {rm : Room} {Pc : Array Value → State → Prop} {Qc : Array Value → State → Outcome → State → Prop} {XC : String → State → State → Prop} {mc ms : Nat} {free : Addr → Prop} {bytes : ByteArray} {maxL : Nat} {ret : Option FieldType}
    (hM : vx_Met l y ws rm Pc Qc XC mc ms free) (hblind : FrameBlind Pc) (hrc : rm.cells = mc) (hrs : rm.slots = ms)
    (hframes : rm.frames + 1 ≤ R.frames) (hlocals : W9 + (maxL + 11) + rm.locals ≤ R.locals)
    (hws : ∀ w ∈ ws, ∀ a' U, s.WarmedH U.vm → w.before a' U = true) (hcode : Cond.code y bytes maxL ret ∈ ws) (hinit : ∀ a' U, s.WarmedH U.vm → (Cond.initialized y.cls).before a' U = true) :
    vx_Back l R p e below s sargs y len W9 (PreOf R mc ms Pc) (PostOf Qc mc ms free) (vx_Post XC mc ms free) := by
  intro m meth c A g ig mk a X hg hsize hdg hW hn hp
  have h1 : (headSpec ws rm).pre.before a A.U = true := atoms_intro fun w hw => hws w hw _ _ X.warmed
  have h2 : (Cond.code y bytes maxL ret).before a A.U = true := hws _ hcode _ _ X.warmed
  have h3 : (Cond.initialized y.cls).before a A.U = true := hinit _ _ X.warmed
  have h4 : A.cells + (headSpec ws rm).room.cells ≤ R.cells := by rw [show (headSpec ws rm).room.cells = mc from hrc]; exact hp.1
  have h5 : A.slots + (headSpec ws rm).room.slots ≤ R.slots := by rw [show (headSpec ws rm).room.slots = ms from hrs]; exact hp.2.1
  have hPc : Pc a (A.U.calling g mk a) := hblind _ _ _ _ hp.2.2
  obtain ⟨U, Ls, c0, s0⟩ := A
  dsimp only [Pt.U, Pt.locs, Pt.cells, Pt.slots] at h1 h2 h3 h4 h5 X hn hPc ⊢
  obtain ⟨methY, cY, hmY, hcY, -, hlY, -, -, -, -⟩ := Cond.code_spec hn h2
  obtain ⟨kY, hkY, -⟩ := className_of_methodNamed hn
  have hinitY : kY.init = .initialized := Cond.initialized_spec (findClass_of_methodNamed hn) hkY h3
  have h : At U g.method c below := by rw [hg]; exact X.here
  have hlocals9 : W9 + (maxL + 11) + (headSpec ws rm).room.locals ≤ R.locals := hlocals
  have happ : (headSpec ws rm).appliesLoose y e.platform (U.calling g mk a) = true :=
    Spec.appliesLoose_calling (g := g) h hdg hn hkY hinitY
      (X.room_calling (g := g) (R' := (headSpec ws rm).room) hsize hmY hcY hframes (by rw [hlY]; omega) h4 h5) h1
  obtain ⟨mid, hmid⟩ := h.above
  have hfr : (U.setTop g).frames = (.java g :: mid) ++ below := by rw [State.frames_setTop' g h.top, hmid]; rfl
  obtain ⟨o, s₂, hsteps, -, hend, hq⟩ := Steps.callFree hM p X.admits X.cas X.clock (acts := []) hfr happ hPc trivial
  have hq' : vx_Q Qc XC mc ms free a (U.calling g mk a) o s₂ := hq
  rw [State.frames_setTop' g h.top] at hend
  obtain ⟨g₀, hg0⟩ := Option.isSome_iff_exists.mp h.top
  obtain ⟨r, hr⟩ := State.topJava?_eq_some.mp hg0
  have hr' : (({ U with heap := s₂.heap, slotsUsed := s₂.slotsUsed } : State).setVm s₂.vm).frames = .java g₀ :: r := hr
  rcases hq' with ⟨hqc, L, hfe, hL⟩ | ⟨q, rfl, E, ce, L, hx, hce, hcv, hcl, hW₂, hsm, hL⟩
  · obtain ⟨⟨v, rfl⟩, hW₂, e2, q2, q3, q4, q5, q6⟩ := id hfe
    have e3 : s₂ = ({ (U.calling g mk a).setFrames s₂.frames with heap := s₂.heap, slotsUsed := s₂.slotsUsed } : State).setVm s₂.vm := by
      have : s₂ = ({ s₂ with vm := (U.calling g mk a).vm } : State).setVm s₂.vm := rfl
      rw [e2] at this
      exact this
    obtain ⟨c₂, i₂, len₂, hc₂, hd₂, hf₂⟩ := hend
    have hW' : U.WarmedH s₂.vm := hW₂
    have hcc : c₂ = c := by
      have h1 : s₂.code? g.method = U.code? g.method := by
        rw [State.code?_eq, State.code?_eq, hW'.alike.method?]
      exact Option.some.inj (hc₂.symm.trans (h1.trans h.code))
    subst hcc
    have hlen : len₂ = len := by rw [hdg] at hd₂; cases hd₂; rfl
    subst hlen
    have hs₂ : s₂ = (({ U with heap := s₂.heap, slotsUsed := s₂.slotsUsed } : State).setVm s₂.vm).setTop { g with pc := g.pc + len₂, stack := v.toList ++ g.stack } := by
      refine e3.trans ?_
      rw [hf₂, State.calling_eq h.top, State.setFrames_setFrames, State.setTop_of_frames _ hr', hr]
      rfl
    have hsame : U.sameButNew ({ U with heap := s₂.heap, slotsUsed := s₂.slotsUsed } : State) L mc ms := by
      refine ⟨?_, q2, q3, q4, q5, q6⟩
      obtain ⟨t, ht, -⟩ := State.frames_cons hr
      show ({ U with heap := s₂.heap, slotsUsed := s₂.slotsUsed } : State) = { U.setFrames U.frames with heap := s₂.heap, slotsUsed := s₂.slotsUsed }
      rw [State.setFrames_self ht]
    subst hg
    refine Or.inl ⟨v, ⟨(({ U with heap := s₂.heap, slotsUsed := s₂.slotsUsed } : State).setVm s₂.vm), Ls ++ L, c0 + mc, s0 + ms⟩,
      ⟨X.admits, X.cas, X.clock, X.frames, X.room, X.hears, X.method, X.code, (X.here.setHeapUsed s₂.heap s₂.slotsUsed).setVm hW'.alike, X.tail, State.WarmedH.trans X.warmed hW', X.limits, X.bytes, X.same.trans (hsame.setVm s.vm)⟩,
      ⟨g, mk, s₂, L, rfl, rfl, hqc, rfl, hL, rfl, rfl⟩, ?_⟩
    show Steps p.tables e below _ ((({ U with heap := s₂.heap, slotsUsed := s₂.slotsUsed } : State).setVm s₂.vm).setTop { g with pc := g.pc + len₂, stack := v.toList ++ g.stack })
    rw [← hs₂]
    exact hsteps
  · obtain ⟨e2, q2, q3, q4, q5, q6⟩ := id hsm
    have e3 : s₂ = ({ (U.calling g mk a).setFrames s₂.frames with heap := s₂.heap, slotsUsed := s₂.slotsUsed } : State).setVm s₂.vm := by
      have : s₂ = ({ s₂ with vm := (U.calling g mk a).vm } : State).setVm s₂.vm := rfl
      rw [e2] at this
      exact this
    have hf₂ : s₂.frames = .throwing q :: .java g :: U.frames.tail := hend
    have hW' : U.WarmedH s₂.vm := hW₂
    have hs₂ : s₂ = ((({ U with heap := s₂.heap, slotsUsed := s₂.slotsUsed } : State).setVm s₂.vm).setTop g).pushFrame (.throwing q) := by
      refine e3.trans ?_
      rw [hf₂, State.calling_eq h.top, State.setFrames_setFrames, State.pushFrame, State.frames_setTop _ hr', State.setTop_of_frames _ hr', State.setFrames_setFrames, hr]
      rfl
    have hsame : U.sameButNew ({ U with heap := s₂.heap, slotsUsed := s₂.slotsUsed } : State) L mc ms := by
      refine ⟨?_, q2, q3, q4, q5, q6⟩
      obtain ⟨t, ht, -⟩ := State.frames_cons hr
      show ({ U with heap := s₂.heap, slotsUsed := s₂.slotsUsed } : State) = { U.setFrames U.frames with heap := s₂.heap, slotsUsed := s₂.slotsUsed }
      rw [State.setFrames_self ht]
    subst hg
    refine Or.inr ⟨q, ⟨(({ U with heap := s₂.heap, slotsUsed := s₂.slotsUsed } : State).setVm s₂.vm), Ls ++ L, c0 + mc, s0 + ms⟩,
      ⟨X.admits, X.cas, X.clock, X.frames, X.room, X.hears, X.method, X.code, (X.here.setHeapUsed s₂.heap s₂.slotsUsed).setVm hW'.alike, X.tail, State.WarmedH.trans X.warmed hW', X.limits, X.bytes, X.same.trans (hsame.setVm s.vm)⟩,
      ⟨g, mk, s₂, L, E, ce, rfl, rfl, hx, hce, hcv, hcl, rfl, hL, rfl, rfl⟩, ?_⟩
    show Steps p.tables e below _ (((({ U with heap := s₂.heap, slotsUsed := s₂.slotsUsed } : State).setVm s₂.vm).setTop g).pushFrame (.throwing q))
    rw [← hs₂]
    exact hsteps
end Payer
section Calls
variable {p : Program} {l : Launch} {e : Env} {R : Room} {s : State} {m : MethodId} {args : Array Value} {below : List Frame} {meth : Method} {c : Code} {T : State} {locs : List Loc} {cells slots : Nat}
theorem vx_callV (X : Stand p l e R s m args below meth c T locs cells slots) (hexec : p.tables.exec = Jvm.exec) {own C : String} {index : Nat} {y : MethodName} {bytes : ByteArray} {maxL : Nat} {ret : Option FieldType}
    (hown : s.vm.findClass own = some m.cls) (hlink : (Cond.methodLink own index y).before args s = true) (hinst : (Cond.instanceMethod y).before args s = true) (hsel : (Cond.selects C y y).before args s = true)
    (hcode : (Cond.code y bytes maxL ret).before args s = true) (hy : y.cls ≠ "java/lang/invoke/MethodHandle" ∧ y.cls ≠ "java/lang/invoke/VarHandle")
    {W9 : Nat} {Pre : Pt → Array Value → Prop} {Post : Pt → Array Value → Option Value → Pt → Prop} {PostX : Pt → Array Value → Addr → Pt → Prop} (hK : vx_Back l R p e below s args y 3 W9 Pre Post PostX)
    {b : Addr} {cellB : Cell} (hcell : T.heap[b]? = some cellB) (hobj : cellB.vm.isStatics = false) (hcls : s.vm.findClass C = some cellB.cls)
    {g : JFrame} (hg : g.method = m) (hsize : g.locals.size = c.maxLocals) {argsL rest : List Value} (hlen : ∀ sig, parseMethodDescriptor y.desc = some sig → argsL.length = sig.parameters.length)
    (hstack : g.stack = argsL.reverse ++ .ref b :: rest) (hW : 2 * g.monitorRoom + (rest.map fun v => v.category).sum ≤ W9) (hdg : decode c.code g.pc = .ok (.invokevirtual index, 3))
    (hpre : ∀ vm₁, s.WarmedH vm₁ → Pre ⟨T.setVm vm₁, locs, cells, slots⟩ (Value.ref b :: argsL).toArray) :
    (∃ (v : Option Value) (vm₁ : Vm) (B : Pt), s.WarmedH vm₁ ∧ Stand p l e R s m args below meth c B.U B.locs B.cells B.slots ∧ Post ⟨T.setVm vm₁, locs, cells, slots⟩ (Value.ref b :: argsL).toArray v B ∧
      ∀ target, Steps p.tables e below (B.U.setTop { g with pc := g.pc + 3, stack := v.toList ++ rest }) target → Steps p.tables e below (T.setTop g) target) ∨
    (∃ (q : Addr) (vm₁ : Vm) (B : Pt), s.WarmedH vm₁ ∧ Stand p l e R s m args below meth c B.U B.locs B.cells B.slots ∧ PostX ⟨T.setVm vm₁, locs, cells, slots⟩ (Value.ref b :: argsL).toArray q B ∧
      Steps p.tables e below (T.setTop g) ((B.U.setTop { g with stack := rest }).pushFrame (.throwing q))) := by
  obtain ⟨mk, methM, hnamed, hmethM, hstM, habM⟩ := Cond.instanceMethod_spec hinst
  obtain ⟨methM', cM, hmethM', -, -, -, -, -, -, hsigM⟩ := Cond.code_spec hnamed hcode
  cases hmethM.symm.trans hmethM'
  obtain ⟨c2, r2, m2, q1, q2, q3, q4, kP, hkP, hkPi⟩ := Cond.selects_spec hsel
  cases hcls.symm.trans q1
  cases (State.methodFound?_of_named hnamed hy).symm.trans q2
  cases hnamed.symm.trans q3
  have hselP : selectMethod e.platform s.vm cellB.cls mk = .method mk := by rw [Launch.admits_selectMethod X.admits]; exact q4
  obtain ⟨vm₁, X₁, hstep₁⟩ := X.invokevirtual hexec hown hlink hnamed hmethM hstM hkP hkPi hy (a := b) (cell := cellB) hcell
    (fun z h => by rw [h] at hobj; cases hobj) hselP hmethM habM hkP hkPi (g := g) hg (argsL := argsL) (rest := rest) (hlen _ hsigM) hstack hdg
  rcases hK m meth c ⟨T.setVm vm₁, locs, cells, slots⟩ { g with stack := rest } (.invokevirtual index) mk (Value.ref b :: argsL).toArray X₁ hg hsize hdg hW (X₁.named hnamed) (hpre vm₁ X₁.warmed) with ⟨v, B, X', hpost, hsteps⟩ | ⟨q, B, X', hpost, hsteps⟩
  · exact Or.inl ⟨v, vm₁, B, X₁.warmed, X', hpost, fun target h => hstep₁ _ fun acts => by rw [doInvoke_state]; exact hsteps.trans h⟩
  · exact Or.inr ⟨q, vm₁, B, X₁.warmed, X', hpost, hstep₁ _ fun acts => by rw [doInvoke_state]; exact hsteps⟩
theorem vx_callS (X : Stand p l e R s m args below meth c T locs cells slots) (hexec : p.tables.exec = Jvm.exec) {own : String} {index : Nat} {y : MethodName} {bytes : ByteArray} {maxL : Nat} {ret : Option FieldType}
    (hown : s.vm.findClass own = some m.cls) (hlink : (Cond.methodLink own index y).before args s = true) (hstat : (Cond.static y).before args s = true) (hinit : (Cond.initialized y.cls).before args s = true)
    (hcode : (Cond.code y bytes maxL ret).before args s = true) (hy : y.cls ≠ "java/lang/invoke/MethodHandle" ∧ y.cls ≠ "java/lang/invoke/VarHandle")
    {W9 : Nat} {Pre : Pt → Array Value → Prop} {Post : Pt → Array Value → Option Value → Pt → Prop} {PostX : Pt → Array Value → Addr → Pt → Prop} (hK : vx_Back l R p e below s args y 3 W9 Pre Post PostX)
    {g : JFrame} (hg : g.method = m) (hsize : g.locals.size = c.maxLocals) {argsL rest : List Value} (hlen : ∀ sig, parseMethodDescriptor y.desc = some sig → argsL.length = sig.parameters.length)
    (hstack : g.stack = argsL.reverse ++ rest) (hW : 2 * g.monitorRoom + (rest.map fun v => v.category).sum ≤ W9) (hdg : decode c.code g.pc = .ok (.invokestatic index, 3))
    (hpre : ∀ vm₁, s.WarmedH vm₁ → Pre ⟨T.setVm vm₁, locs, cells, slots⟩ argsL.toArray) :
    (∃ (v : Option Value) (vm₁ : Vm) (B : Pt), s.WarmedH vm₁ ∧ Stand p l e R s m args below meth c B.U B.locs B.cells B.slots ∧ Post ⟨T.setVm vm₁, locs, cells, slots⟩ argsL.toArray v B ∧
      ∀ target, Steps p.tables e below (B.U.setTop { g with pc := g.pc + 3, stack := v.toList ++ rest }) target → Steps p.tables e below (T.setTop g) target) ∨
    (∃ (q : Addr) (vm₁ : Vm) (B : Pt), s.WarmedH vm₁ ∧ Stand p l e R s m args below meth c B.U B.locs B.cells B.slots ∧ PostX ⟨T.setVm vm₁, locs, cells, slots⟩ argsL.toArray q B ∧
      Steps p.tables e below (T.setTop g) ((B.U.setTop { g with stack := rest }).pushFrame (.throwing q))) := by
  obtain ⟨mk, hnamed⟩ := Cond.code_named hcode
  obtain ⟨methM, cM, hmethM, -, -, -, -, -, -, hsigM⟩ := Cond.code_spec hnamed hcode
  have hstatic : methM.isStatic = true := Cond.static_spec hnamed hmethM hstat
  obtain ⟨kP, hkP, -⟩ := className_of_methodNamed hnamed
  have hinitP : kP.init = .initialized := Cond.initialized_spec (findClass_of_methodNamed hnamed) hkP hinit
  obtain ⟨vm₁, X₁, hstep₁⟩ := X.invokestatic hexec hown hlink hnamed hmethM hstatic hkP hinitP hy (g := g) hg (argsL := argsL) (rest := rest) (hlen _ hsigM) hstack hdg
  rcases hK m meth c ⟨T.setVm vm₁, locs, cells, slots⟩ { g with stack := rest } (.invokestatic index) mk argsL.toArray X₁ hg hsize hdg hW (X₁.named hnamed) (hpre vm₁ X₁.warmed) with ⟨v, B, X', hpost, hsteps⟩ | ⟨q, B, X', hpost, hsteps⟩
  · exact Or.inl ⟨v, vm₁, B, X₁.warmed, X', hpost, fun target h => hstep₁ _ fun acts => by rw [doInvoke_state]; exact hsteps.trans h⟩
  · exact Or.inr ⟨q, vm₁, B, X₁.warmed, X', hpost, hstep₁ _ fun acts => by rw [doInvoke_state]; exact hsteps⟩
end Calls
theorem vx_cls {s : State} {T : State} {vm₁ : Vm} {E : String} {k : ClassId} (hW : s.WarmedH vm₁) (h : (T.setVm vm₁).vm.findClass E = some k) : s.vm.findClass E = some k := by
  have h1 : vm₁.findClass E = some k := h
  rw [hW.alike.findClass] at h1
  exact h1
/-- the method's frame g, with q thrown over it -/
def vx_W (p : Program) (l : Launch) (e : Env) (R : Room) (s : State) (m : MethodId) (args : Array Value) (below : List Frame) (meth : Method) (c : Code) (H : Heap) (locs : List Loc) (cells slots : Nat) (Q : State → Prop) (g : JFrame) (q : Addr) : Prop :=
  ∀ T : State, T.heap = H → Stand p l e R s m args below meth c T locs cells slots → ∃ t, Steps p.tables e below ((T.setTop g).pushFrame (.throwing q)) t ∧ Q t
def vx_Run (p : Program) (l : Launch) (e : Env) (R : Room) (s : State) (m : MethodId) (args : Array Value) (below : List Frame) (meth : Method) (c : Code) (H : Heap) (locs : List Loc) (cells slots mc ms : Nat) (g : JFrame) (rest : List Value) (Qa : State → Outcome → State → Prop) (XC : String → State → State → Prop) (free : Addr → Prop) : Prop :=
  ∀ T : State, T.heap = H → Stand p l e R s m args below meth c T locs cells slots →
    (∃ (v : Option Value) (st₀ t T' : State) (L : List Loc), st₀.heap = H ∧ Stand p l e R s m args below meth c T' (locs ++ L) (cells + mc) (slots + ms) ∧ (∀ q ∈ L, free q.base) ∧ T'.heap = t.heap ∧ T'.vm = t.vm ∧ Qa st₀ (.returned v) t ∧
      Goes p e below T g T' { g with pc := g.pc + 3, stack := v.toList ++ rest }) ∨
    (∃ (q : Addr) (st₀ t T' : State) (L : List Loc) (E : String) (ce : Cell), st₀.heap = H ∧ Stand p l e R s m args below meth c T' (locs ++ L) (cells + mc) (slots + ms) ∧ (∀ z ∈ L, free z.base) ∧ T'.heap = t.heap ∧ T'.vm = t.vm ∧ XC E st₀ t ∧ t.heap[q]? = some ce ∧ ce.vm = .none ∧ s.vm.findClass E = some ce.cls ∧
      Steps p.tables e below (T.setTop g) ((T'.setTop { g with stack := rest }).pushFrame (.throwing q)))
def vx_X {S : Type} (px : S → Prop) (B : String → S → State → Prop) (A : Nat → Prop) : String → State → State → Prop := fun E st t => ∃ u : S, px u ∧ B E u t ∧ va_F A st t
section Runs
variable {p : Program} {l : Launch} {e : Env} {R : Room} {s : State} {m : MethodId} {args : Array Value} {below : List Frame} {meth : Method} {c : Code} {H : Heap} {locs : List Loc} {cells slots : Nat}
variable {y : MethodName} {bytes cc : ByteArray} {maxL nL mc ms n index : Nat} {ret : Option FieldType} {ws : List Cond} {rm : Room} {Pc : Array Value → State → Prop} {Qc : Array Value → State → Outcome → State → Prop} {XC : String → State → State → Prop} {free : Addr → Prop} {Ts : List Cond} {own C : String} {b : Addr} {As rest : List Value} {g : JFrame}
theorem vx_callBack (cb : CallB R s args own index y bytes maxL ret ws rm mc ms n) (hM : vx_Met l y ws rm Pc Qc XC mc ms free) (hbl : FrameBlind Pc) : vx_Back l R p e below s args y 3 8 (PreOf R mc ms Pc) (PostOf Qc mc ms free) (vx_Post XC mc ms free) := by
  obtain ⟨hrc, hrs, hfr, hlo, hws, hcw, -, hini, -⟩ := cb
  exact vx_back (bytes := bytes) (maxL := maxL) (ret := ret) hM hbl hrc hrs hfr hlo hws hcw (fun a' U hW => word_at hW (Or.inl (by first | rfl | simp [Cond.onTables, Cond.keeps, Cond.steady])) hini)
theorem vx_runV (S : CallFix p m c cc nL s args Ts own) (hM : vx_Met l y ws rm Pc Qc XC mc ms free) (cw : CallW R s args own C index y bytes maxL ret ws rm mc ms n) (hp : PreV s H C b Pc As)
    (hg : g.method = m) (hn : As.length = n) (hsize : g.locals.size = nL) (hstack : g.stack = As.reverse ++ .ref b :: rest) (hW : 2 * g.monitorRoom + (rest.map fun v => v.category).sum ≤ 8) (hdg : decode cc g.pc = .ok (.invokevirtual index, 3)) (hf : cells + mc ≤ R.cells ∧ slots + ms ≤ R.slots) :
    vx_Run p l e R s m args below meth c H locs cells slots mc ms g rest (Qc (Value.ref b :: As).toArray) XC free := by
  have hK : vx_Back l R p e below s args y 3 8 (PreOf R mc ms Pc) (PostOf Qc mc ms free) (vx_Post XC mc ms free) := vx_callBack cw.1 hM hp.1
  obtain ⟨⟨-, -, -, -, -, -, hcode, -, hy, hlen, hl⟩, hin, hse⟩ := cw
  obtain ⟨hx, hb, hml, ho, -⟩ := S
  obtain ⟨-, ⟨cellB, hcB, hoB, hclB⟩, hPc⟩ := hp
  intro T hT X
  rcases vx_callV X hx (C := C) (bytes := bytes) (maxL := maxL) (ret := ret) ho hl hin hse hcode hy hK (by rw [hT]; exact hcB) hoB hclB hg (hsize.trans hml.symm) (argsL := As) (rest := rest) (fun sig h => hn.trans (hlen sig h)) hstack hW (by rw [hb]; exact hdg)
    (fun vm₁ hW₁ => ⟨hf.1, hf.2, hPc (T.setVm vm₁) hT hW₁⟩) with ⟨v, vm₁, ⟨U', l2, c2, s2⟩, hW₁, X', ⟨g', mk, t, L, e1, e2, hq, h1, hL, h2, h3⟩, st⟩ | ⟨q, vm₁, ⟨U', l2, c2, s2⟩, hW₁, X', ⟨g', mk, t, L, E, ce, e1, e2, hq, hce, hcv, hcl, h1, hL, h2, h3⟩, st⟩
  · dsimp only [Pt.U, Pt.locs, Pt.cells, Pt.slots] at X' e1 e2 h1 h2 h3 st
    subst h1; subst h2; subst h3
    exact Or.inl ⟨v, (T.setVm vm₁).calling g' mk (Value.ref b :: As).toArray, t, U', L, hT, X', hL, e1, e2, hq, st⟩
  · dsimp only [Pt.U, Pt.locs, Pt.cells, Pt.slots] at X' e1 e2 h1 h2 h3 st hcl
    subst h1; subst h2; subst h3
    exact Or.inr ⟨q, (T.setVm vm₁).calling g' mk (Value.ref b :: As).toArray, t, U', L, E, ce, hT, X', hL, e1, e2, hq, hce, hcv, vx_cls hW₁ hcl, st⟩
theorem vx_runS (S : CallFix p m c cc nL s args Ts own) (hM : vx_Met l y ws rm Pc Qc XC mc ms free) (cw : CallB R s args own index y bytes maxL ret ws rm mc ms n ∧ (Cond.static y).before args s = true) (hp : PreS s H Pc As)
    (hg : g.method = m) (hn : As.length = n) (hsize : g.locals.size = nL) (hstack : g.stack = As.reverse ++ rest) (hW : 2 * g.monitorRoom + (rest.map fun v => v.category).sum ≤ 8) (hdg : decode cc g.pc = .ok (.invokestatic index, 3)) (hf : cells + mc ≤ R.cells ∧ slots + ms ≤ R.slots) :
    vx_Run p l e R s m args below meth c H locs cells slots mc ms g rest (Qc As.toArray) XC free := by
  have hK : vx_Back l R p e below s args y 3 8 (PreOf R mc ms Pc) (PostOf Qc mc ms free) (vx_Post XC mc ms free) := vx_callBack cw.1 hM hp.1
  obtain ⟨⟨-, -, -, -, -, -, hcode, hini, hy, hlen, hl⟩, hstt⟩ := cw
  obtain ⟨hx, hb, hml, ho, -⟩ := S
  intro T hT X
  rcases vx_callS X hx (bytes := bytes) (maxL := maxL) (ret := ret) ho hl hstt hini hcode hy hK hg (hsize.trans hml.symm) (argsL := As) (rest := rest) (fun sig h => hn.trans (hlen sig h)) hstack hW (by rw [hb]; exact hdg)
    (fun vm₁ hW₁ => ⟨hf.1, hf.2, hp.2 (T.setVm vm₁) hT hW₁⟩) with ⟨v, vm₁, ⟨U', l2, c2, s2⟩, hW₁, X', ⟨g', mk, t, L, e1, e2, hq, h1, hL, h2, h3⟩, st⟩ | ⟨q, vm₁, ⟨U', l2, c2, s2⟩, hW₁, X', ⟨g', mk, t, L, E, ce, e1, e2, hq, hce, hcv, hcl, h1, hL, h2, h3⟩, st⟩
  · dsimp only [Pt.U, Pt.locs, Pt.cells, Pt.slots] at X' e1 e2 h1 h2 h3 st
    subst h1; subst h2; subst h3
    exact Or.inl ⟨v, (T.setVm vm₁).calling g' mk As.toArray, t, U', L, hT, X', hL, e1, e2, hq, st⟩
  · dsimp only [Pt.U, Pt.locs, Pt.cells, Pt.slots] at X' e1 e2 h1 h2 h3 st hcl
    subst h1; subst h2; subst h3
    exact Or.inr ⟨q, (T.setVm vm₁).calling g' mk As.toArray, t, U', L, E, ce, hT, X', hL, e1, e2, hq, hce, hcv, vx_cls hW₁ hcl, st⟩
end Runs
section Rows
variable {p : Program} {l : Launch} {e : Env} {R : Room} {s : State} {m : MethodId} {args : Array Value} {below : List Frame} {meth : Method} {c : Code} {H : Heap} {locs : List Loc} {cells slots : Nat} {Q : State → Prop}
variable {mc ms : Nat} {free : Addr → Prop} {A0 A1 : Nat → Prop} {H0 : Heap} {a : Array Value} {pc : Nat} {ls : Array Slot} {st0 rest : List Value}
theorem vx_keep {st₀ t T' : State} {L : List Loc} (h0 : st₀.heap = H) (e1 : T'.heap = t.heap) (hS : va_S A0 H0 H locs) (hA : ∀ q, q < H.size → A1 q → A0 q) (hf : ∀ q, free q → A0 q) (hL : ∀ q ∈ L, free q.base) (hF : va_F A1 st₀ t) :
    H.size ≤ T'.heap.size ∧ (∀ q : Nat, q < H.size → ¬ A1 q → T'.heap[q]? = H[q]?) ∧ va_S A0 H0 T'.heap (locs ++ L) := by
  obtain ⟨hz, hk⟩ := hF
  rw [h0] at hz hk
  exact ⟨by rw [e1]; exact hz, fun q h1 h2 => by rw [e1]; exact hk q h1 h2,
    ⟨Nat.le_trans hS.1 (by rw [e1]; exact hz), fun q h1 h2 => by rw [e1, hk q (Nat.lt_of_lt_of_le h1 hS.1) (fun z => h2 (hA q (Nat.lt_of_lt_of_le h1 hS.1) z))]; exact hS.2.1 q h1 h2, fun q hq => by
      rcases List.mem_append.mp hq with h | h
      · exact hS.2.2 q h
      · exact hf _ (hL q h)⟩⟩
theorem vx_calli {S SX : Type} {post : Int32 → S → Prop} {px : SX → Prop} {B : S → State → Prop} {BX : String → SX → State → Prop} {AX : Nat → Prop} (hr : vx_Run p l e R s m args below meth c H locs cells slots mc ms (F0 m pc ls st0) rest (va_Qi post B A1 a) (vx_X px BX AX) free) (hS : va_S A0 H0 H locs) (hA : ∀ q, q < H.size → A1 q → A0 q) (hf : ∀ q, free q → A0 q) (hAX : ∀ q, q < H.size → AX q → A0 q)
    (kx : ∀ (E : String) (ce : Cell) (q9 : Addr) (u : SX) (t : State) (H1 : Heap) (locs1 : List Loc), t.heap = H1 → s.vm.Alike t.vm → px u → BX E u t → H.size ≤ H1.size → (∀ q : Nat, q < H.size → ¬ AX q → H1[q]? = H[q]?) → va_S A0 H0 H1 locs1 → H1[q9]? = some ce → ce.vm = .none → s.vm.findClass E = some ce.cls → vx_W p l e R s m args below meth c H1 locs1 (cells + mc) (slots + ms) Q (F0 m pc ls rest) q9)
    (kk : ∀ (r : Int32) (u : S) (t : State) (H1 : Heap) (locs1 : List Loc), t.heap = H1 → s.vm.Alike t.vm → post r u → B u t → H.size ≤ H1.size → (∀ q : Nat, q < H.size → ¬ A1 q → H1[q]? = H[q]?) → va_S A0 H0 H1 locs1 → W p l e R s m args below meth c H1 locs1 (cells + mc) (slots + ms) Q (F0 m (pc + 3) ls (.int r :: rest))) : W p l e R s m args below meth c H locs cells slots Q (F0 m pc ls st0) := by
  intro T hT X
  rcases hr T hT X with ⟨v, st₀, t, T', L, h0, X', hL, e1, e2, ⟨⟨r, u, hv, hp, hb⟩, hF⟩, st⟩ | ⟨q, st₀, t, T', L, E, ce, h0, X', hL, e1, e2, ⟨u, hp, hb, hF⟩, hce, hcv, hcl, st⟩
  · cases hv
    obtain ⟨k1, k2, k3⟩ := vx_keep h0 e1 hS hA hf hL hF
    obtain ⟨t2, a1, b1⟩ := kk r u t T'.heap (locs ++ L) e1.symm (by rw [← e2]; exact X'.warmed.alike) hp hb k1 k2 k3 T' rfl X'
    exact ⟨t2, st t2 a1, b1⟩
  · obtain ⟨k1, k2, k3⟩ := vx_keep h0 e1 hS hAX hf hL hF
    obtain ⟨t2, a1, b1⟩ := kx E ce q u t T'.heap (locs ++ L) e1.symm (by rw [← e2]; exact X'.warmed.alike) hp hb k1 k2 k3 (by rw [e1]; exact hce) hcv hcl T' rfl X'
    exact ⟨t2, st.trans a1, b1⟩
theorem vx_calll {S SX : Type} {post : Int64 → S → Prop} {px : SX → Prop} {B : S → State → Prop} {BX : String → SX → State → Prop} {AX : Nat → Prop} (hr : vx_Run p l e R s m args below meth c H locs cells slots mc ms (F0 m pc ls st0) rest (va_Ql post B A1 a) (vx_X px BX AX) free) (hS : va_S A0 H0 H locs) (hA : ∀ q, q < H.size → A1 q → A0 q) (hf : ∀ q, free q → A0 q) (hAX : ∀ q, q < H.size → AX q → A0 q)
    (kx : ∀ (E : String) (ce : Cell) (q9 : Addr) (u : SX) (t : State) (H1 : Heap) (locs1 : List Loc), t.heap = H1 → s.vm.Alike t.vm → px u → BX E u t → H.size ≤ H1.size → (∀ q : Nat, q < H.size → ¬ AX q → H1[q]? = H[q]?) → va_S A0 H0 H1 locs1 → H1[q9]? = some ce → ce.vm = .none → s.vm.findClass E = some ce.cls → vx_W p l e R s m args below meth c H1 locs1 (cells + mc) (slots + ms) Q (F0 m pc ls rest) q9)
    (kk : ∀ (r : Int64) (u : S) (t : State) (H1 : Heap) (locs1 : List Loc), t.heap = H1 → s.vm.Alike t.vm → post r u → B u t → H.size ≤ H1.size → (∀ q : Nat, q < H.size → ¬ A1 q → H1[q]? = H[q]?) → va_S A0 H0 H1 locs1 → W p l e R s m args below meth c H1 locs1 (cells + mc) (slots + ms) Q (F0 m (pc + 3) ls (.long r :: rest))) : W p l e R s m args below meth c H locs cells slots Q (F0 m pc ls st0) := by
  intro T hT X
  rcases hr T hT X with ⟨v, st₀, t, T', L, h0, X', hL, e1, e2, ⟨⟨r, u, hv, hp, hb⟩, hF⟩, st⟩ | ⟨q, st₀, t, T', L, E, ce, h0, X', hL, e1, e2, ⟨u, hp, hb, hF⟩, hce, hcv, hcl, st⟩
  · cases hv
    obtain ⟨k1, k2, k3⟩ := vx_keep h0 e1 hS hA hf hL hF
    obtain ⟨t2, a1, b1⟩ := kk r u t T'.heap (locs ++ L) e1.symm (by rw [← e2]; exact X'.warmed.alike) hp hb k1 k2 k3 T' rfl X'
    exact ⟨t2, st t2 a1, b1⟩
  · obtain ⟨k1, k2, k3⟩ := vx_keep h0 e1 hS hAX hf hL hF
    obtain ⟨t2, a1, b1⟩ := kx E ce q u t T'.heap (locs ++ L) e1.symm (by rw [← e2]; exact X'.warmed.alike) hp hb k1 k2 k3 (by rw [e1]; exact hce) hcv hcl T' rfl X'
    exact ⟨t2, st.trans a1, b1⟩
theorem vx_callf {S SX : Type} {post : UInt32 → S → Prop} {px : SX → Prop} {B : S → State → Prop} {BX : String → SX → State → Prop} {AX : Nat → Prop} (hr : vx_Run p l e R s m args below meth c H locs cells slots mc ms (F0 m pc ls st0) rest (va_Qf post B A1 a) (vx_X px BX AX) free) (hS : va_S A0 H0 H locs) (hA : ∀ q, q < H.size → A1 q → A0 q) (hf : ∀ q, free q → A0 q) (hAX : ∀ q, q < H.size → AX q → A0 q)
    (kx : ∀ (E : String) (ce : Cell) (q9 : Addr) (u : SX) (t : State) (H1 : Heap) (locs1 : List Loc), t.heap = H1 → s.vm.Alike t.vm → px u → BX E u t → H.size ≤ H1.size → (∀ q : Nat, q < H.size → ¬ AX q → H1[q]? = H[q]?) → va_S A0 H0 H1 locs1 → H1[q9]? = some ce → ce.vm = .none → s.vm.findClass E = some ce.cls → vx_W p l e R s m args below meth c H1 locs1 (cells + mc) (slots + ms) Q (F0 m pc ls rest) q9)
    (kk : ∀ (r : UInt32) (u : S) (t : State) (H1 : Heap) (locs1 : List Loc), t.heap = H1 → s.vm.Alike t.vm → post r u → B u t → H.size ≤ H1.size → (∀ q : Nat, q < H.size → ¬ A1 q → H1[q]? = H[q]?) → va_S A0 H0 H1 locs1 → W p l e R s m args below meth c H1 locs1 (cells + mc) (slots + ms) Q (F0 m (pc + 3) ls (.float r :: rest))) : W p l e R s m args below meth c H locs cells slots Q (F0 m pc ls st0) := by
  intro T hT X
  rcases hr T hT X with ⟨v, st₀, t, T', L, h0, X', hL, e1, e2, ⟨⟨r, u, hv, hp, hb⟩, hF⟩, st⟩ | ⟨q, st₀, t, T', L, E, ce, h0, X', hL, e1, e2, ⟨u, hp, hb, hF⟩, hce, hcv, hcl, st⟩
  · cases hv
    obtain ⟨k1, k2, k3⟩ := vx_keep h0 e1 hS hA hf hL hF
    obtain ⟨t2, a1, b1⟩ := kk r u t T'.heap (locs ++ L) e1.symm (by rw [← e2]; exact X'.warmed.alike) hp hb k1 k2 k3 T' rfl X'
    exact ⟨t2, st t2 a1, b1⟩
  · obtain ⟨k1, k2, k3⟩ := vx_keep h0 e1 hS hAX hf hL hF
    obtain ⟨t2, a1, b1⟩ := kx E ce q u t T'.heap (locs ++ L) e1.symm (by rw [← e2]; exact X'.warmed.alike) hp hb k1 k2 k3 (by rw [e1]; exact hce) hcv hcl T' rfl X'
    exact ⟨t2, st.trans a1, b1⟩
theorem vx_calld {S SX : Type} {post : UInt64 → S → Prop} {px : SX → Prop} {B : S → State → Prop} {BX : String → SX → State → Prop} {AX : Nat → Prop} (hr : vx_Run p l e R s m args below meth c H locs cells slots mc ms (F0 m pc ls st0) rest (va_Qd post B A1 a) (vx_X px BX AX) free) (hS : va_S A0 H0 H locs) (hA : ∀ q, q < H.size → A1 q → A0 q) (hf : ∀ q, free q → A0 q) (hAX : ∀ q, q < H.size → AX q → A0 q)
    (kx : ∀ (E : String) (ce : Cell) (q9 : Addr) (u : SX) (t : State) (H1 : Heap) (locs1 : List Loc), t.heap = H1 → s.vm.Alike t.vm → px u → BX E u t → H.size ≤ H1.size → (∀ q : Nat, q < H.size → ¬ AX q → H1[q]? = H[q]?) → va_S A0 H0 H1 locs1 → H1[q9]? = some ce → ce.vm = .none → s.vm.findClass E = some ce.cls → vx_W p l e R s m args below meth c H1 locs1 (cells + mc) (slots + ms) Q (F0 m pc ls rest) q9)
    (kk : ∀ (r : UInt64) (u : S) (t : State) (H1 : Heap) (locs1 : List Loc), t.heap = H1 → s.vm.Alike t.vm → post r u → B u t → H.size ≤ H1.size → (∀ q : Nat, q < H.size → ¬ A1 q → H1[q]? = H[q]?) → va_S A0 H0 H1 locs1 → W p l e R s m args below meth c H1 locs1 (cells + mc) (slots + ms) Q (F0 m (pc + 3) ls (.double r :: rest))) : W p l e R s m args below meth c H locs cells slots Q (F0 m pc ls st0) := by
  intro T hT X
  rcases hr T hT X with ⟨v, st₀, t, T', L, h0, X', hL, e1, e2, ⟨⟨r, u, hv, hp, hb⟩, hF⟩, st⟩ | ⟨q, st₀, t, T', L, E, ce, h0, X', hL, e1, e2, ⟨u, hp, hb, hF⟩, hce, hcv, hcl, st⟩
  · cases hv
    obtain ⟨k1, k2, k3⟩ := vx_keep h0 e1 hS hA hf hL hF
    obtain ⟨t2, a1, b1⟩ := kk r u t T'.heap (locs ++ L) e1.symm (by rw [← e2]; exact X'.warmed.alike) hp hb k1 k2 k3 T' rfl X'
    exact ⟨t2, st t2 a1, b1⟩
  · obtain ⟨k1, k2, k3⟩ := vx_keep h0 e1 hS hAX hf hL hF
    obtain ⟨t2, a1, b1⟩ := kx E ce q u t T'.heap (locs ++ L) e1.symm (by rw [← e2]; exact X'.warmed.alike) hp hb k1 k2 k3 (by rw [e1]; exact hce) hcv hcl T' rfl X'
    exact ⟨t2, st.trans a1, b1⟩
theorem vx_callv {S SX : Type} {post : S → Prop} {px : SX → Prop} {B : S → State → Prop} {BX : String → SX → State → Prop} {AX : Nat → Prop} (hr : vx_Run p l e R s m args below meth c H locs cells slots mc ms (F0 m pc ls st0) rest (va_Qv post B A1 a) (vx_X px BX AX) free) (hS : va_S A0 H0 H locs) (hA : ∀ q, q < H.size → A1 q → A0 q) (hf : ∀ q, free q → A0 q) (hAX : ∀ q, q < H.size → AX q → A0 q)
    (kx : ∀ (E : String) (ce : Cell) (q9 : Addr) (u : SX) (t : State) (H1 : Heap) (locs1 : List Loc), t.heap = H1 → s.vm.Alike t.vm → px u → BX E u t → H.size ≤ H1.size → (∀ q : Nat, q < H.size → ¬ AX q → H1[q]? = H[q]?) → va_S A0 H0 H1 locs1 → H1[q9]? = some ce → ce.vm = .none → s.vm.findClass E = some ce.cls → vx_W p l e R s m args below meth c H1 locs1 (cells + mc) (slots + ms) Q (F0 m pc ls rest) q9)
    (kk : ∀ (u : S) (t : State) (H1 : Heap) (locs1 : List Loc), t.heap = H1 → s.vm.Alike t.vm → post u → B u t → H.size ≤ H1.size → (∀ q : Nat, q < H.size → ¬ A1 q → H1[q]? = H[q]?) → va_S A0 H0 H1 locs1 → W p l e R s m args below meth c H1 locs1 (cells + mc) (slots + ms) Q (F0 m (pc + 3) ls (rest))) : W p l e R s m args below meth c H locs cells slots Q (F0 m pc ls st0) := by
  intro T hT X
  rcases hr T hT X with ⟨v, st₀, t, T', L, h0, X', hL, e1, e2, ⟨⟨u, hv, hp, hb⟩, hF⟩, st⟩ | ⟨q, st₀, t, T', L, E, ce, h0, X', hL, e1, e2, ⟨u, hp, hb, hF⟩, hce, hcv, hcl, st⟩
  · cases hv
    obtain ⟨k1, k2, k3⟩ := vx_keep h0 e1 hS hA hf hL hF
    obtain ⟨t2, a1, b1⟩ := kk u t T'.heap (locs ++ L) e1.symm (by rw [← e2]; exact X'.warmed.alike) hp hb k1 k2 k3 T' rfl X'
    exact ⟨t2, st t2 a1, b1⟩
  · obtain ⟨k1, k2, k3⟩ := vx_keep h0 e1 hS hAX hf hL hF
    obtain ⟨t2, a1, b1⟩ := kx E ce q u t T'.heap (locs ++ L) e1.symm (by rw [← e2]; exact X'.warmed.alike) hp hb k1 k2 k3 (by rw [e1]; exact hce) hcv hcl T' rfl X'
    exact ⟨t2, st.trans a1, b1⟩
/-- caught by the row x of this method's table; the rows ahead don't take it -/
theorem vx_catch {own name : String} {E : String} {ce : Cell} {q : Addr} (hown : s.vm.findClass own = some m.cls) (pre : List ExceptionTableEntry) (x : ExceptionTableEntry) (suf : List ExceptionTableEntry) (hsplit : c.exceptionTable.toList = pre ++ x :: suf)
    (hpass : ∀ z ∈ pre, covers z pc = false ∨ (z.catchType ≠ 0 ∧ ∃ nm : String, (Cond.classLink own z.catchType nm).before args s = true ∧ va_Nc E nm s)) (hx : covers x pc = true) (h0 : x.catchType ≠ 0)
    (hlink : (Cond.classLink own x.catchType name).before args s = true) (hcast : (Cond.castable E name).before args s = true) (hcell : H[q]? = some ce) (hv : ce.vm = .none) (hcl : s.vm.findClass E = some ce.cls)
    (kk : W p l e R s m args below meth c H locs cells slots Q (F0 m x.handlerPc ls [.ref q])) : vx_W p l e R s m args below meth c H locs cells slots Q (F0 m pc ls rest) q := by
  intro T hT X
  have hpl : e.platform.magicAccessors = ({} : Platform).magicAccessors := by rw [X.admits.platform]
  obtain ⟨c3, c4, hc3, hc4, hasg⟩ := Cond.castable_spec hcast
  cases Option.some.inj (hc3.symm.trans hcl)
  obtain ⟨c5, hc5, hcl5⟩ := Cond.classLink_spec hown hlink e.platform hpl
  cases Option.some.inj (hc4.symm.trans hc5)
  obtain ⟨vm', X', st⟩ := X.thenCaughtThrough q (g := F0 m pc ls rest) rfl (Steps.refl _) (by rw [hT]; exact hcell) (by rw [hv]; rfl) (by obtain ⟨k9, h9, -⟩ := Vm.findClass_spec hcl; exact ⟨k9, h9⟩) pre x suf hsplit
    (fun z hz => by
      rcases hpass z hz with h | ⟨hz0, nm, hl1, hn1⟩
      · exact Or.inl h
      · obtain ⟨c6, hc6, hcl6⟩ := Cond.classLink_spec hown hl1 e.platform hpl
        obtain ⟨a8, b8, h1, h2, h3⟩ := hn1
        cases Option.some.inj (h1.symm.trans hcl)
        cases Option.some.inj (h2.symm.trans hc6)
        exact Or.inr ⟨hz0, _, hcl6, h3⟩) hx (Or.inr ⟨h0, c4, hcl5, hasg⟩)
  obtain ⟨t, a1, b1⟩ := kk (T.setVm vm') hT X'
  exact ⟨t, st.trans a1, b1⟩
end Rows
section Ends
variable {p : Program} {l : Launch} {e : Env} {R : Room} {s : State} {m : MethodId} {args : Array Value} {below : List Frame} {meth : Method} {c : Code} {H : Heap} {locs : List Loc} {cells slots : Nat} {Q : State → Prop}
variable {mc ms : Nat} {free : Addr → Prop} {A0 A1 : Nat → Prop} {H0 : Heap} {a : Array Value} {ls : Array Slot} {st0 rest : List Value}
variable {Qc : Array Value → State → Outcome → State → Prop} {XC : String → State → State → Prop}
/-- what a body that may throw owes at its end -/
def vx_MQ (below : List Frame) (Qc : Array Value → State → Outcome → State → Prop) (XC : String → State → State → Prop) (a : Array Value) (s : State) (mc ms : Nat) (free : Addr → Prop) : State → Prop := fun t =>
  ∃ o, t.status = .running ∧ Ended t below o ∧ vx_Q Qc XC mc ms free a s o t
theorem vx_ret {g : JFrame} {mc ms : Nat} (k : W p l e R s m args below meth c H locs cells slots (MQ below Qc args s mc ms free) g) : W p l e R s m args below meth c H locs cells slots (vx_MQ below Qc XC args s mc ms free) g := by
  intro T hT X
  obtain ⟨t, a1, o, b1, b2, b3, b4⟩ := k T hT X
  exact ⟨t, a1, o, b1, b2, Or.inl ⟨b3, b4⟩⟩
/-- not caught here: it goes on to the caller -/
theorem vx_widen {g : JFrame} {q : Addr} {k n : Nat} (h1 : cells ≤ k) (h2 : slots ≤ n) (kk : vx_W p l e R s m args below meth c H locs k n Q g q) : vx_W p l e R s m args below meth c H locs cells slots Q g q := fun T hT X => kk T hT (stand_widen X h1 h2)
theorem vx_out {pc : Nat} {E : String} {ce : Cell} {q : Addr} {mc ms : Nat} (hout : ∀ x ∈ c.exceptionTable.toList, covers x pc = false) (hlocks : meth.locks = false) (hcell : H[q]? = some ce) (hv : ce.vm = .none) (hcl : s.vm.findClass E = some ce.cls)
    (hx : ∀ t : State, t.heap = H → s.vm.Alike t.vm → XC E s t) (hf : ∀ z ∈ locs, free z.base) (hc : cells ≤ mc) (hs : slots ≤ ms) :
    vx_W p l e R s m args below meth c H locs cells slots (vx_MQ below Qc XC args s mc ms free) (F0 m pc ls rest) q := by
  intro T hT X
  obtain ⟨st1, hrun, hend, hW, hsm⟩ := X.leaveThrown q (g := F0 m pc ls rest) rfl rfl rfl hout hlocks
  have hcell9 : (T.setFrames (.throwing q :: below)).heap[q]? = some ce := by
    show T.heap[q]? = some ce
    rw [hT]; exact hcell
  exact ⟨_, st1, .threw q, hrun, hend, Or.inr ⟨q, rfl, E, ce, locs, hx _ hT hW.alike, hcell9, hv, hcl, hW, hsm.mono hc hs, hf⟩⟩
theorem vx_frame {U : State} {k n : Nat} (h : s.sameButNew ({ U with vm := s.vm } : State) locs k n) : s.heap.size ≤ U.heap.size ∧ ∀ q : Nat, q < s.heap.size → (∀ z ∈ locs, z.base ≠ q) → U.heap[q]? = s.heap[q]? := by
  obtain ⟨-, h2, -, -, -, h6⟩ := h
  refine ⟨h2, fun q hq hz => ?_⟩
  obtain ⟨c9, e1, e2, e3, e4⟩ := h6 q _ (Array.getElem?_eq_getElem hq)
  have hs : c9.slots = (s.heap[q]).slots := Array.ext_getElem? fun i => e4 i fun hm => hz _ hm rfl
  have h9 : c9 = s.heap[q] := by
    rw [hs] at e2
    exact e2
  have e5 : U.heap[q]? = some c9 := e1
  rw [e5, h9, Array.getElem?_eq_getElem hq]
/-- the words of a throw but the four that speak of the heap -/
def vx_no (w : Cond) : Bool := decide (w ≠ .isRef (.static Bundle.tN "UNASSIGNED_STACK" Bundle.steD)) && decide (w ≠ .isRef (.static Bundle.tN "SUPPRESSED_SENTINEL" Bundle.listD)) && decide (w ≠ .laysStatic Bundle.tN "UNASSIGNED_STACK" Bundle.steD) && decide (w ≠ .laysStatic Bundle.tN "SUPPRESSED_SENTINEL" Bundle.listD)
def vx_at0 (own : String) (ic : Nat) (X : String) (names : List String) : List Cond := (Bundle.ownAtoms0 own ic X names).filter vx_no
def vx_atS (own : String) (ic : Nat) (X : String) (names : List String) : List Cond := (Bundle.ownAtoms own ic X names).filter vx_no
/-- a word that the tables alone decide, or a good one -/
def vx_ot (w : Cond) : Bool := w.onTables || goodWord w
theorem vx_ot_at {args a' : Array Value} {s U : State} {w : Cond} (hW : s.WarmedH U.vm) (hvm : s.vm = U.vm) (hg : vx_ot w = true) (h : w.before args s = true) : w.before a' U = true := by
  simp only [vx_ot, Bool.or_eq_true] at hg
  rcases hg with hg | hg
  · exact va_tabs hg hvm h
  · exact word_at hW (good_of_word hg) h
/-- a list's words: the good ones out of the method's own list, the others by premises of their own -/
theorem vx_hat {args : Array Value} {s : State} {L B : List Cond} (h1 : ∀ w ∈ L.filter goodWord, w.before args s = true) (h2 : ∀ w ∈ L.filter (fun w => !goodWord w), w ∈ B) (h3 : ∀ w ∈ B, w.before args s = true) : ∀ w ∈ L, w.before args s = true := by
  intro w hw
  by_cases g : goodWord w = true
  · exact h1 w (List.mem_filter.mpr ⟨hw, g⟩)
  · refine h3 w (h2 w (List.mem_filter.mpr ⟨hw, ?_⟩))
    show (!goodWord w) = true
    cases hgw : goodWord w
    · rfl
    · exact absurd hgw g
theorem vx_c {args : Array Value} {s : State} {w : Cond} {B : List Cond} (h : w.before args s = true) (t : ∀ w ∈ B, w.before args s = true) : ∀ w' ∈ w :: B, w'.before args s = true := fun w' h' => (List.mem_cons.mp h').elim (fun e => by rw [e]; exact h) (t w')
theorem vx_n {args : Array Value} {s : State} : ∀ w ∈ ([] : List Cond), w.before args s = true := fun _ h => nomatch h
theorem vx_own {args : Array Value} {s : State} {L : List Cond} (h1 : ∀ w ∈ L.filter vx_no, w.before args s = true)
    (hU : (Cond.isRef (.static Bundle.tN "UNASSIGNED_STACK" Bundle.steD)).before args s = true) (hN : (Cond.isRef (.static Bundle.tN "SUPPRESSED_SENTINEL" Bundle.listD)).before args s = true)
    (lU : (Cond.laysStatic Bundle.tN "UNASSIGNED_STACK" Bundle.steD).before args s = true) (lN : (Cond.laysStatic Bundle.tN "SUPPRESSED_SENTINEL" Bundle.listD).before args s = true) : ∀ w ∈ L, w.before args s = true := by
  intro w hw
  by_cases e1 : w = .isRef (.static Bundle.tN "UNASSIGNED_STACK" Bundle.steD)
  · rw [e1]; exact hU
  · by_cases e2 : w = .isRef (.static Bundle.tN "SUPPRESSED_SENTINEL" Bundle.listD)
    · rw [e2]; exact hN
    · by_cases e3 : w = .laysStatic Bundle.tN "UNASSIGNED_STACK" Bundle.steD
      · rw [e3]; exact lU
      · by_cases e4 : w = .laysStatic Bundle.tN "SUPPRESSED_SENTINEL" Bundle.listD
        · rw [e4]; exact lN
        · exact h1 w (List.mem_filter.mpr ⟨hw, by unfold vx_no; rw [decide_eq_true e1, decide_eq_true e2, decide_eq_true e3, decide_eq_true e4]; rfl⟩)
/-- where a static field lies, its class's statics cell in H -/
def vx_L (C n d : String) (A : Nat → Prop) (U : State) (H : Heap) : Prop := ∃ (c : ClassId) (k : Class) (i : Nat) (f : Field) (a : Nat) (cell : Cell), U.vm.findClass C = some c ∧ U.fieldFound? C n d = some (c, k, i, f) ∧ f.isStatic = true ∧ k.statics = some a ∧ H[a]? = some cell ∧ cell.vm.isStatics = true ∧ cell.cls = c ∧ f.slot < cell.slots.size ∧ k.staticTypes[f.slot]? = some f.type ∧ ¬ A a
theorem vx_L.moved {C n d : String} {A : Nat → Prop} {u U : State} {H : Heap} (hvm : u.vm.Alike U.vm) (h : vx_L C n d A u H) : vx_L C n d A U H := by
  obtain ⟨c, k, i, f, a, cell, h1, h2, h3, h4, h5, h6, h7, h8, h9, h10⟩ := h
  obtain ⟨k', hi', he⟩ := State.fieldFound?_setVm hvm h2
  exact ⟨c, k', i, f, a, cell, by rw [hvm.findClass]; exact h1, hi', h3, by rw [he]; exact h4, h5, h6, h7, h8, by rw [he]; exact h9, h10⟩
theorem vx_L.kept {C n d : String} {A : Nat → Prop} {U : State} {H H1 : Heap} (h : vx_L C n d A U H) (hq : ∀ a : Nat, a < H.size → ¬ A a → H1[a]? = H[a]?) : vx_L C n d A U H1 := by
  obtain ⟨c, k, i, f, a, cell, h1, h2, h3, h4, h5, h6, h7, h8, h9, h10⟩ := h
  exact ⟨c, k, i, f, a, cell, h1, h2, h3, h4, by rw [hq a (Array.getElem?_eq_some_iff.mp h5).1 h10]; exact h5, h6, h7, h8, h9, h10⟩
theorem vx_L.narrow {C n d : String} {A B : Nat → Prop} {U : State} {H : Heap} (h : vx_L C n d A U H) (hAB : ∀ q, B q → A q) : vx_L C n d B U H := by
  obtain ⟨c, k, i, f, a, cell, h1, h2, h3, h4, h5, h6, h7, h8, h9, h10⟩ := h
  exact ⟨c, k, i, f, a, cell, h1, h2, h3, h4, h5, h6, h7, h8, h9, fun z => h10 (hAB _ z)⟩
theorem vx_L.word {C n d : String} {A : Nat → Prop} {s : State} {args : Array Value} (h : vx_L C n d A s s.heap) : (Cond.laysStatic C n d).before args s = true := by
  obtain ⟨c, k, i, f, a, cell, h1, h2, h3, h4, h5, h6, h7, h8, h9, -⟩ := h
  show (Cond.laysStatic C n d).holds args s none s [] = true
  exact Cond.laysStatic_of h1 h2 h3 h4 h5 h6 h7 h8 h9
/-- .. and what it holds: null or some reference -/
def vx_Zq (C n d : String) (A : Nat → Prop) (U : State) (H : Heap) : Prop := va_Zq C n d A U H ∧ vx_L C n d A U H
theorem vx_Zq.moved {C n d : String} {A : Nat → Prop} {u U : State} {H : Heap} (hvm : u.vm.Alike U.vm) (h : vx_Zq C n d A u H) : vx_Zq C n d A U H := ⟨va_Zq.moved hvm h.1, vx_L.moved hvm h.2⟩
theorem vx_Zq.kept {C n d : String} {A : Nat → Prop} {U : State} {H H1 : Heap} (h : vx_Zq C n d A U H) (hq : ∀ a : Nat, a < H.size → ¬ A a → H1[a]? = H[a]?) : vx_Zq C n d A U H1 := ⟨va_Zq.kept h.1 hq, vx_L.kept h.2 hq⟩
theorem vx_Zq.narrow {C n d : String} {A B : Nat → Prop} {U : State} {H : Heap} (h : vx_Zq C n d A U H) (hAB : ∀ q, B q → A q) : vx_Zq C n d B U H := ⟨va_Zq.narrow h.1 hAB, vx_L.narrow h.2 hAB⟩
theorem vx_Zqof {args : Array Value} {s : State} {C n d : String} {A : Nat → Prop} (hl : (Cond.laysStatic C n d).before args s = true) (hini : (Cond.initialized C).before args s = true) (h : (Cond.isRef (.static C n d)).before args s = true) (hA : ∀ a : Nat, a < s.heap.size → ¬ A a) : vx_Zq C n d A s s.heap := by
  refine ⟨va_Zqof hl hini h hA, ?_⟩
  obtain ⟨c, k, i, f, a, cell, h1, h2, h3, h4, h5, h6, h7, h8, h9⟩ := Cond.laysStatic_spec hl
  exact ⟨c, k, i, f, a, cell, h1, h2, h3, h4, h5, h6, h7, h8, h9, hA a (Array.getElem?_eq_some_iff.mp h5).1⟩
theorem vx_isRef {C n d : String} {v : Value} {A : Nat → Prop} {s : State} {args : Array Value} (h : va_Z C n d v A s s.heap) (hv : v.isRef = true) : (Cond.isRef (.static C n d)).before args s = true := by
  obtain ⟨cf, kf, fi, f, a, cell, h1, h2, h3, h4, h5, h6, h7, -⟩ := h
  have he : (Term.static C n d).eval args s none [] s = some v := by
    simp [Term.eval, State.fieldNamed?, h1, h2, h4, h5, h6, h7]
  simp only [Cond.before, Cond.holds, Cond.value, he]
  cases v <;> simp_all [Value.isRef]
theorem vx_isRefq {C n d : String} {A : Nat → Prop} {s : State} {args : Array Value} (h : va_Zq C n d A s s.heap) : (Cond.isRef (.static C n d)).before args s = true := by
  rcases h with h | ⟨t, h⟩
  · exact vx_isRef h rfl
  · exact vx_isRef h rfl
/-- the same frame, seen from here: as if the method were called anew in this heap -/
theorem vx_rebase {T : State} (X : Stand p l e R s m args below meth c T locs cells slots) {R' : Room} (hf : R'.frames ≤ R.frames) (hl : R'.locals ≤ R.locals) (hc : cells + R'.cells ≤ R.cells) (hs : slots + R'.slots ≤ R.slots) :
    Stand p l e R' ((T.setVm s.vm).setFrames (.invoking m args :: below)) m args below meth c T [] 0 0 := by
  have htop : (T.setVm s.vm).topJava?.isSome := X.here.top
  have hF : ((T.setVm s.vm).setFrames (.invoking m args :: below)).frames = .invoking m args :: below := State.frames_setFrames _ (State.cur_lt_of_top htop)
  obtain ⟨g₀, hg0⟩ := Option.isSome_iff_exists.mp htop
  obtain ⟨r, hr⟩ := State.topJava?_eq_some.mp hg0
  have hl9 : e.platform.stackLimits (T.setVm s.vm).me = e.platform.stackLimits s.me := X.limits
  have hb9 : (T.setVm s.vm).me.stackBytes = s.me.stackBytes := X.bytes
  refine ⟨X.admits, X.cas, X.clock, hF, ?_, X.hears, X.method, X.code, X.here, X.tail, X.warmed, ?_, ?_, ?_⟩
  · have h := X.room
    have hU : ((T.setVm s.vm).setFrames (.invoking m args :: below)).localsInUse = s.localsInUse := by
      rw [State.localsInUse_invoking hF (meth := meth) (c := c) X.method X.code, State.localsInUse_invoking X.frames X.method X.code]
    simp only [State.hasRoom, Bool.and_eq_true, decide_eq_true_eq] at h ⊢
    obtain ⟨⟨⟨⟨h1, h2, h3, h4, h5, h6⟩, h7⟩, h8⟩, h9⟩ := h
    rw [X.frames, List.length_cons] at h2 h3
    have q1 := X.heapSize
    have q2 := X.used
    simp only [hF, hU, List.length_cons, State.stackLimits_setFrames, State.stackBytes_setFrames, hl9, hb9]
    refine ⟨⟨⟨⟨by omega, by omega, by omega, by omega, by omega, h6⟩, ?_⟩, ?_⟩, X.book⟩
    · show T.heap.size + R'.cells ≤ e.platform.maxCells
      omega
    · show T.slotsUsed + R'.slots ≤ e.platform.maxSlots
      omega
  · rw [State.stackLimits_setFrames]; rfl
  · rw [State.stackBytes_setFrames]; rfl
  · refine ⟨?_, Nat.le_refl _, Nat.le_refl _, ?_, ?_, fun a c9 h9 => ⟨c9, h9, rfl, rfl, fun _ _ => rfl⟩⟩
    · obtain ⟨t, ht, -⟩ := State.frames_cons hr
      show T.setVm s.vm = { ((T.setVm s.vm).setFrames (.invoking m args :: below)).setFrames (T.setVm s.vm).frames with heap := T.heap, slotsUsed := T.slotsUsed }
      rw [State.setFrames_setFrames, State.setFrames_self ht]
      rfl
    · show T.slotsUsed = T.slotsUsed + ((T.heap.toList.drop T.heap.size).map (·.slots.size)).sum
      rw [List.drop_eq_nil_of_le (Nat.le_of_eq Array.length_toList)]
      rfl
    · show ((T.heap.toList.drop T.heap.size).map (·.slots.size)).sum ≤ 0
      rw [List.drop_eq_nil_of_le (Nat.le_of_eq Array.length_toList)]
      exact Nat.le_refl _
/-- 'throw new E()': new; dup; invokespecial; athrow -/
theorem vx_throw0 {cc : ByteArray} {pc : Nat} (hexec : p.tables.exec = Jvm.exec) (hb : c.code = cc) (hl : l.stackTraces = false) {own cls : String} {names : List String} {ik ic mc ms : Nat} {A : Nat → Prop}
    (hown : s.vm.findClass own = some m.cls) (hcls : Bundle.fit cls = true) (hnames : ∀ n ∈ names, Bundle.fit n = true)
    (hk : (Cond.classLink own ik cls).before args s = true) (hini : (Cond.initialized cls).before args s = true) (hat : ∀ w ∈ vx_at0 own ic cls names, w.before args s = true)
    (hgood : ∀ w ∈ Cond.classLink own ik cls :: Cond.initialized cls :: vx_at0 own ic cls names, vx_ot w = true)
    (hU : vx_Zq Bundle.tN "UNASSIGNED_STACK" Bundle.steD A s s.heap) (hN : vx_Zq Bundle.tN "SUPPRESSED_SENTINEL" Bundle.listD A s s.heap) (hS : va_S A s.heap H locs) (hsize : ls.size = c.maxLocals)
    (d0 : decode cc pc = .ok (.new ik, 3)) (d3 : decode cc (pc + 3) = .ok (.dup, 1)) (d4 : decode cc (pc + 4) = .ok (.invokespecial ic, 3)) (d7 : decode cc (pc + 7) = .ok (.athrow, 1))
    (hout : ∀ x ∈ c.exceptionTable.toList, covers x (pc + 7) = false)
    (hRframes : names.length + 3 < R.frames) (hRlocals : (rest.map fun v => v.category).sum + (13 * (names.length + 1) + 42) ≤ R.locals) (hRcells : cells + 1 ≤ R.cells) (hRslots : slots + 6 ≤ R.slots) (hlocks : meth.locks = false)
    (hx : ∀ t : State, s.vm.Alike t.vm → H.size ≤ t.heap.size → (∀ q : Nat, q < H.size → t.heap[q]? = H[q]?) → XC cls s t)
    (hf : ∀ z ∈ locs, free z.base) (hc : cells + 1 ≤ mc) (hs : slots + 6 ≤ ms) :
    W p l e R s m args below meth c H locs cells slots (vx_MQ below Qc XC args s mc ms free) (F0 m pc ls rest) := by
  intro T hT X
  have htr : e.platform.stackTraces = false := (show e.platform.stackTraces = l.stackTraces by rw [X.admits.platform]).trans hl
  have Y := vx_rebase X (R' := { frames := R.frames, locals := R.locals, cells := 1, slots := 6 }) (Nat.le_refl _) (Nat.le_refl _) hRcells hRslots
  obtain ⟨s', hA⟩ : ∃ z, z = (T.setVm s.vm).setFrames (.invoking m args :: below) := ⟨_, rfl⟩
  rw [← hA] at Y
  have hvm : s'.vm = s.vm := by rw [hA]; rfl
  have hhp : s'.heap = H := by rw [hA]; exact hT
  have hW0 : s.WarmedH s'.vm := by rw [hvm]; exact State.WarmedH.refl s
  have hat' : ∀ w ∈ vx_at0 own ic cls names, w.before args s' = true := fun w hw => vx_ot_at hW0 hvm.symm (hgood w (List.mem_cons_of_mem _ (List.mem_cons_of_mem _ hw))) (hat w hw)
  have hk' : (Cond.classLink own ik cls).before args s' = true := vx_ot_at hW0 hvm.symm (hgood _ List.mem_cons_self) hk
  have hini' : (Cond.initialized cls).before args s' = true := vx_ot_at hW0 hvm.symm (hgood _ (List.mem_cons_of_mem _ List.mem_cons_self)) hini
  have hU' : vx_Zq Bundle.tN "UNASSIGNED_STACK" Bundle.steD A s' s'.heap := by rw [hhp]; exact vx_Zq.moved hW0.alike (hU.kept hS.2.1)
  have hN' : vx_Zq Bundle.tN "SUPPRESSED_SENTINEL" Bundle.listD A s' s'.heap := by rw [hhp]; exact vx_Zq.moved hW0.alike (hN.kept hS.2.1)
  have h : ∀ w ∈ Bundle.ownAtoms0 own ic cls names, w.before args s' = true := vx_own hat' (vx_isRefq hU'.1) (vx_isRefq hN'.1) hU'.2.word hN'.2.word
  have hown' : s'.vm.findClass own = some m.cls := by rw [hvm]; exact hown
  have hins : (Cond.instantiable cls 6).before args s' = true := h _ (by simp [Bundle.ownAtoms0])
  obtain ⟨vm₁, cX, kX, hfX, hkX, -, -, X₁, st1⟩ := Y.newCold hexec (own := own) (C := cls) (index := ik) (n := 6) hown' hk' hins hini'
    (g := F0 m pc ls rest) rfl (by rw [hb]; exact d0) (Nat.le_refl _) (Nat.le_refl _)
  generalize hT1 : (T.setVm vm₁).pushCell { cls := cX, slots := kX.instanceTypes.map defaultValue, vm := .none } = T1 at X₁ st1
  have hcat : (Value.ref T.heap.size).category = 1 := rfl
  have hcellA : T1.heap[T.heap.size]? = some (freshCell cX kX) := by rw [← hT1]; exact State.heap_pushCell_size _ _
  have d3' : decode c.code (pc + 3) = .ok (.dup, 1) := by rw [hb]; exact d3
  obtain ⟨U, hsteps, hrun, hend, hW, hsame, ce, hce, hO⟩ := X₁.ctorThrow0 hexec htr (own := own) (cls := cls) (names := names) (ic := ic) hown' hcls hnames h (fun x hx => nomatch hx) hfX hkX hcellA (by rw [hhp, hT]; exact Nat.le_refl _)
    (g := { method := m, pc := pc + 4, locals := ls, stack := .ref T.heap.size :: .ref T.heap.size :: rest, locked := none }) rfl hsize rfl rfl (rest := rest) rfl
    (by rw [hb]; exact d4) (by rw [hb]; exact d7) hout hRframes (by simp only [List.map_cons, List.sum_cons, hcat]; omega) hlocks
  obtain ⟨f1, f2⟩ := vx_frame hsame
  rw [hhp] at f1 f2
  have hWs : s.WarmedH U.vm := State.WarmedH.trans hW0 hW
  have hcl : s.vm.findClass cls = some ce.cls := by
    have h9 := hO.cls
    rw [hvm] at h9
    exact h9
  have hall : s.sameButNew ({ U with vm := s.vm } : State) locs mc ms := by
    subst hA
    obtain ⟨e1, e2⟩ := hsame
    rw [State.setFrames_setFrames] at e1
    have h2 : (T.setVm s.vm).sameButNew ({ U with vm := s.vm } : State) [] (0 + 1) (0 + 6) := ⟨e1, e2⟩
    have h3 := X.same.trans h2
    rw [List.append_nil] at h3
    exact h3.mono hc hs
  refine ⟨U, ?_, .threw T.heap.size, hrun, hend, Or.inr ⟨T.heap.size, rfl, cls, ce, locs, hx U hWs.alike f1 (fun q hq => f2 q hq (fun z hz => nomatch hz)), hce, hO.vm, hcl, hWs, hall, hf⟩⟩
  refine st1 _ ?_
  show Steps p.tables e below (T1.setTop { method := m, pc := pc + 3, locals := ls, stack := .ref T.heap.size :: rest, locked := none }) _
  jvm_step X₁.here [X₁.here.top, hexec, d3', Value.category]
  exact hsteps
/-- 'throw new E("text")': new; dup; ldc; invokespecial; athrow -/
theorem vx_throwS {cc : ByteArray} {pc : Nat} (hexec : p.tables.exec = Jvm.exec) (hb : c.code = cc) (hl : l.stackTraces = false) {own cls text : String} {names : List String} {ik is ic mc ms sa : Nat} {A : Nat → Prop}
    (hown : s.vm.findClass own = some m.cls) (hcls : Bundle.fit cls = true) (hnames : ∀ n ∈ names, Bundle.fit n = true)
    (hk : (Cond.classLink own ik cls).before args s = true) (hini : (Cond.initialized cls).before args s = true) (hstr : vk_R own is text sa s) (hat : ∀ w ∈ vx_atS own ic cls names, w.before args s = true)
    (hgood : ∀ w ∈ Cond.classLink own ik cls :: Cond.initialized cls :: vx_atS own ic cls names, vx_ot w = true)
    (hU : vx_Zq Bundle.tN "UNASSIGNED_STACK" Bundle.steD A s s.heap) (hN : vx_Zq Bundle.tN "SUPPRESSED_SENTINEL" Bundle.listD A s s.heap) (hS : va_S A s.heap H locs) (hsize : ls.size = c.maxLocals)
    (d0 : decode cc pc = .ok (.new ik, 3)) (d3 : decode cc (pc + 3) = .ok (.dup, 1)) (d4 : decode cc (pc + 4) = .ok (.ldc is, 2)) (d6 : decode cc (pc + 6) = .ok (.invokespecial ic, 3)) (d9 : decode cc (pc + 9) = .ok (.athrow, 1))
    (hout : ∀ x ∈ c.exceptionTable.toList, covers x (pc + 9) = false)
    (hRframes : names.length + 3 < R.frames) (hRlocals : (rest.map fun v => v.category).sum + (13 * (names.length + 1) + 43) ≤ R.locals) (hRcells : cells + 1 ≤ R.cells) (hRslots : slots + 6 ≤ R.slots) (hlocks : meth.locks = false)
    (hx : ∀ t : State, s.vm.Alike t.vm → H.size ≤ t.heap.size → (∀ q : Nat, q < H.size → t.heap[q]? = H[q]?) → XC cls s t)
    (hf : ∀ z ∈ locs, free z.base) (hc : cells + 1 ≤ mc) (hs : slots + 6 ≤ ms) :
    W p l e R s m args below meth c H locs cells slots (vx_MQ below Qc XC args s mc ms free) (F0 m pc ls rest) := by
  intro T hT X
  have htr : e.platform.stackTraces = false := (show e.platform.stackTraces = l.stackTraces by rw [X.admits.platform]).trans hl
  have Y := vx_rebase X (R' := { frames := R.frames, locals := R.locals, cells := 1, slots := 6 }) (Nat.le_refl _) (Nat.le_refl _) hRcells hRslots
  obtain ⟨s', hA⟩ : ∃ z, z = (T.setVm s.vm).setFrames (.invoking m args :: below) := ⟨_, rfl⟩
  rw [← hA] at Y
  have hvm : s'.vm = s.vm := by rw [hA]; rfl
  have hhp : s'.heap = H := by rw [hA]; exact hT
  have hW0 : s.WarmedH s'.vm := by rw [hvm]; exact State.WarmedH.refl s
  have hat' : ∀ w ∈ vx_atS own ic cls names, w.before args s' = true := fun w hw => vx_ot_at hW0 hvm.symm (hgood w (List.mem_cons_of_mem _ (List.mem_cons_of_mem _ hw))) (hat w hw)
  have hk' : (Cond.classLink own ik cls).before args s' = true := vx_ot_at hW0 hvm.symm (hgood _ List.mem_cons_self) hk
  have hini' : (Cond.initialized cls).before args s' = true := vx_ot_at hW0 hvm.symm (hgood _ (List.mem_cons_of_mem _ List.mem_cons_self)) hini
  have hU' : vx_Zq Bundle.tN "UNASSIGNED_STACK" Bundle.steD A s' s'.heap := by rw [hhp]; exact vx_Zq.moved hW0.alike (hU.kept hS.2.1)
  have hN' : vx_Zq Bundle.tN "SUPPRESSED_SENTINEL" Bundle.listD A s' s'.heap := by rw [hhp]; exact vx_Zq.moved hW0.alike (hN.kept hS.2.1)
  have h : ∀ w ∈ Bundle.ownAtoms own ic cls names, w.before args s' = true := vx_own hat' (vx_isRefq hU'.1) (vx_isRefq hN'.1) hU'.2.word hN'.2.word
  have hown' : s'.vm.findClass own = some m.cls := by rw [hvm]; exact hown
  have hins : (Cond.instantiable cls 6).before args s' = true := h _ (by simp [Bundle.ownAtoms])
  obtain ⟨vm₁, cX, kX, hfX, hkX, -, -, X₁, st1⟩ := Y.newCold hexec (own := own) (C := cls) (index := ik) (n := 6) hown' hk' hins hini'
    (g := F0 m pc ls rest) rfl (by rw [hb]; exact d0) (Nat.le_refl _) (Nat.le_refl _)
  generalize hT1 : (T.setVm vm₁).pushCell { cls := cX, slots := kX.instanceTypes.map defaultValue, vm := .none } = T1 at X₁ st1
  have hcat : (Value.ref T.heap.size).category = 1 := rfl
  have hcellA : T1.heap[T.heap.size]? = some (freshCell cX kX) := by rw [← hT1]; exact State.heap_pushCell_size _ _
  have d3' : decode c.code (pc + 3) = .ok (.dup, 1) := by rw [hb]; exact d3
  have d4' : decode c.code (pc + 4) = .ok (.ldc is, 2) := by rw [hb]; exact d4
  have hstr' : vk_R own is text sa s' := vk_R.warm hW0 hstr
  obtain ⟨U, hsteps, hrun, hend, hW, hsame, ce, hce, hO⟩ := X₁.ctorThrowS hexec htr (own := own) (cls := cls) (names := names) (ic := ic) hown' hcls hnames h (fun x hx => nomatch hx) hfX hkX hcellA (by rw [hhp, hT]; exact Nat.le_refl _) (msg := .ref sa) rfl
    (g := { method := m, pc := pc + 6, locals := ls, stack := .ref sa :: .ref T.heap.size :: .ref T.heap.size :: rest, locked := none }) rfl hsize rfl rfl (rest := rest) rfl
    (by rw [hb]; exact d6) (by rw [hb]; exact d9) hout hRframes (by simp only [List.map_cons, List.sum_cons, hcat]; omega) hlocks
  obtain ⟨f1, f2⟩ := vx_frame hsame
  rw [hhp] at f1 f2
  have hWs : s.WarmedH U.vm := State.WarmedH.trans hW0 hW
  have hcl : s.vm.findClass cls = some ce.cls := by
    have h9 := hO.cls
    rw [hvm] at h9
    exact h9
  have hall : s.sameButNew ({ U with vm := s.vm } : State) locs mc ms := by
    subst hA
    obtain ⟨e1, e2⟩ := hsame
    rw [State.setFrames_setFrames] at e1
    have h2 : (T.setVm s.vm).sameButNew ({ U with vm := s.vm } : State) [] (0 + 1) (0 + 6) := ⟨e1, e2⟩
    have h3 := X.same.trans h2
    rw [List.append_nil] at h3
    exact h3.mono hc hs
  refine ⟨U, ?_, .threw T.heap.size, hrun, hend, Or.inr ⟨T.heap.size, rfl, cls, ce, locs, hx U hWs.alike f1 (fun q hq => f2 q hq (fun z hz => nomatch hz)), hce, hO.vm, hcl, hWs, hall, hf⟩⟩
  refine st1 _ ?_
  show Steps p.tables e below (T1.setTop { method := m, pc := pc + 3, locals := ls, stack := .ref T.heap.size :: rest, locked := none }) _
  jvm_step X₁.here [X₁.here.top, hexec, d3', Value.category]
  exact X₁.ldcString hexec (own := own) (text := text) (index := is) (a := sa) hown' hstr'.1 hstr'.2
    (g := { method := m, pc := pc + 4, locals := ls, stack := .ref T.heap.size :: .ref T.heap.size :: rest, locked := none }) rfl d4' _ hsteps
/-- 'throw new E("text")', the text by a wide index -/
theorem vx_throwSW {cc : ByteArray} {pc : Nat} (hexec : p.tables.exec = Jvm.exec) (hb : c.code = cc) (hl : l.stackTraces = false) {own cls text : String} {names : List String} {ik is ic mc ms sa : Nat} {A : Nat → Prop}
    (hown : s.vm.findClass own = some m.cls) (hcls : Bundle.fit cls = true) (hnames : ∀ n ∈ names, Bundle.fit n = true)
    (hk : (Cond.classLink own ik cls).before args s = true) (hini : (Cond.initialized cls).before args s = true) (hstr : vk_R own is text sa s) (hat : ∀ w ∈ vx_atS own ic cls names, w.before args s = true)
    (hgood : ∀ w ∈ Cond.classLink own ik cls :: Cond.initialized cls :: vx_atS own ic cls names, vx_ot w = true)
    (hU : vx_Zq Bundle.tN "UNASSIGNED_STACK" Bundle.steD A s s.heap) (hN : vx_Zq Bundle.tN "SUPPRESSED_SENTINEL" Bundle.listD A s s.heap) (hS : va_S A s.heap H locs) (hsize : ls.size = c.maxLocals)
    (d0 : decode cc pc = .ok (.new ik, 3)) (d3 : decode cc (pc + 3) = .ok (.dup, 1)) (d4 : decode cc (pc + 4) = .ok (.ldc_w is, 3)) (d7 : decode cc (pc + 7) = .ok (.invokespecial ic, 3)) (d10 : decode cc (pc + 10) = .ok (.athrow, 1))
    (hout : ∀ x ∈ c.exceptionTable.toList, covers x (pc + 10) = false)
    (hRframes : names.length + 3 < R.frames) (hRlocals : (rest.map fun v => v.category).sum + (13 * (names.length + 1) + 43) ≤ R.locals) (hRcells : cells + 1 ≤ R.cells) (hRslots : slots + 6 ≤ R.slots) (hlocks : meth.locks = false)
    (hx : ∀ t : State, s.vm.Alike t.vm → H.size ≤ t.heap.size → (∀ q : Nat, q < H.size → t.heap[q]? = H[q]?) → XC cls s t)
    (hf : ∀ z ∈ locs, free z.base) (hc : cells + 1 ≤ mc) (hs : slots + 6 ≤ ms) :
    W p l e R s m args below meth c H locs cells slots (vx_MQ below Qc XC args s mc ms free) (F0 m pc ls rest) := by
  intro T hT X
  have htr : e.platform.stackTraces = false := (show e.platform.stackTraces = l.stackTraces by rw [X.admits.platform]).trans hl
  have Y := vx_rebase X (R' := { frames := R.frames, locals := R.locals, cells := 1, slots := 6 }) (Nat.le_refl _) (Nat.le_refl _) hRcells hRslots
  obtain ⟨s', hA⟩ : ∃ z, z = (T.setVm s.vm).setFrames (.invoking m args :: below) := ⟨_, rfl⟩
  rw [← hA] at Y
  have hvm : s'.vm = s.vm := by rw [hA]; rfl
  have hhp : s'.heap = H := by rw [hA]; exact hT
  have hW0 : s.WarmedH s'.vm := by rw [hvm]; exact State.WarmedH.refl s
  have hat' : ∀ w ∈ vx_atS own ic cls names, w.before args s' = true := fun w hw => vx_ot_at hW0 hvm.symm (hgood w (List.mem_cons_of_mem _ (List.mem_cons_of_mem _ hw))) (hat w hw)
  have hk' : (Cond.classLink own ik cls).before args s' = true := vx_ot_at hW0 hvm.symm (hgood _ List.mem_cons_self) hk
  have hini' : (Cond.initialized cls).before args s' = true := vx_ot_at hW0 hvm.symm (hgood _ (List.mem_cons_of_mem _ List.mem_cons_self)) hini
  have hU' : vx_Zq Bundle.tN "UNASSIGNED_STACK" Bundle.steD A s' s'.heap := by rw [hhp]; exact vx_Zq.moved hW0.alike (hU.kept hS.2.1)
  have hN' : vx_Zq Bundle.tN "SUPPRESSED_SENTINEL" Bundle.listD A s' s'.heap := by rw [hhp]; exact vx_Zq.moved hW0.alike (hN.kept hS.2.1)
  have h : ∀ w ∈ Bundle.ownAtoms own ic cls names, w.before args s' = true := vx_own hat' (vx_isRefq hU'.1) (vx_isRefq hN'.1) hU'.2.word hN'.2.word
  have hown' : s'.vm.findClass own = some m.cls := by rw [hvm]; exact hown
  have hins : (Cond.instantiable cls 6).before args s' = true := h _ (by simp [Bundle.ownAtoms])
  obtain ⟨vm₁, cX, kX, hfX, hkX, -, -, X₁, st1⟩ := Y.newCold hexec (own := own) (C := cls) (index := ik) (n := 6) hown' hk' hins hini'
    (g := F0 m pc ls rest) rfl (by rw [hb]; exact d0) (Nat.le_refl _) (Nat.le_refl _)
  generalize hT1 : (T.setVm vm₁).pushCell { cls := cX, slots := kX.instanceTypes.map defaultValue, vm := .none } = T1 at X₁ st1
  have hcat : (Value.ref T.heap.size).category = 1 := rfl
  have hcellA : T1.heap[T.heap.size]? = some (freshCell cX kX) := by rw [← hT1]; exact State.heap_pushCell_size _ _
  have d3' : decode c.code (pc + 3) = .ok (.dup, 1) := by rw [hb]; exact d3
  have d4' : decode c.code (pc + 4) = .ok (.ldc_w is, 3) := by rw [hb]; exact d4
  have hstr' : vk_R own is text sa s' := vk_R.warm hW0 hstr
  obtain ⟨U, hsteps, hrun, hend, hW, hsame, ce, hce, hO⟩ := X₁.ctorThrowS hexec htr (own := own) (cls := cls) (names := names) (ic := ic) hown' hcls hnames h (fun x hx => nomatch hx) hfX hkX hcellA (by rw [hhp, hT]; exact Nat.le_refl _) (msg := .ref sa) rfl
    (g := { method := m, pc := pc + 7, locals := ls, stack := .ref sa :: .ref T.heap.size :: .ref T.heap.size :: rest, locked := none }) rfl hsize rfl rfl (rest := rest) rfl
    (by rw [hb]; exact d7) (by rw [hb]; exact d10) hout hRframes (by simp only [List.map_cons, List.sum_cons, hcat]; omega) hlocks
  obtain ⟨f1, f2⟩ := vx_frame hsame
  rw [hhp] at f1 f2
  have hWs : s.WarmedH U.vm := State.WarmedH.trans hW0 hW
  have hcl : s.vm.findClass cls = some ce.cls := by
    have h9 := hO.cls
    rw [hvm] at h9
    exact h9
  have hall : s.sameButNew ({ U with vm := s.vm } : State) locs mc ms := by
    subst hA
    obtain ⟨e1, e2⟩ := hsame
    rw [State.setFrames_setFrames] at e1
    have h2 : (T.setVm s.vm).sameButNew ({ U with vm := s.vm } : State) [] (0 + 1) (0 + 6) := ⟨e1, e2⟩
    have h3 := X.same.trans h2
    rw [List.append_nil] at h3
    exact h3.mono hc hs
  refine ⟨U, ?_, .threw T.heap.size, hrun, hend, Or.inr ⟨T.heap.size, rfl, cls, ce, locs, hx U hWs.alike f1 (fun q hq => f2 q hq (fun z hz => nomatch hz)), hce, hO.vm, hcl, hWs, hall, hf⟩⟩
  refine st1 _ ?_
  show Steps p.tables e below (T1.setTop { method := m, pc := pc + 3, locals := ls, stack := .ref T.heap.size :: rest, locked := none }) _
  jvm_step X₁.here [X₁.here.top, hexec, d3', Value.category]
  exact X₁.ldcStringW hexec (own := own) (text := text) (index := is) (a := sa) hown' hstr'.1 hstr'.2
    (g := { method := m, pc := pc + 4, locals := ls, stack := .ref T.heap.size :: .ref T.heap.size :: rest, locked := none }) rfl d4' _ hsteps
end Ends
section Bodies
variable {l : Launch}
theorem vx_ofW {y : MethodName} {ws ws' : List Cond} {rm : Room} {Pc : Array Value → State → Prop} {Qc : Array Value → State → Outcome → State → Prop} {XC : String → State → State → Prop} {mc ms : Nat} {free : Addr → Prop} {cc : ByteArray} {maxL : Nat} {ret : Option FieldType}
    (hy : plainName y.cls = true) (hw : ws = Cond.code y cc maxL ret :: ws')
    (body : ∀ p e s m args below meth c s₁, BodyLoose p l y (headSpec ws rm) cc maxL ret e s m args below meth c s₁ → c.maxLocals = maxL → (∀ x ∈ c.exceptionTable.toList, False) → Pc args s →
      W p l e (headSpec ws rm).room s m args below meth c s.heap [] 0 0 (vx_MQ below Qc XC args s mc ms free) (entryFrame m args maxL)) : vx_Met l y ws rm Pc Qc XC mc ms free := by
  refine MetFree.of_bodyS (code := cc) (maxLocals := maxL) (ret := ret) hy ?_ ?_
  · intro args s m h hn
    obtain ⟨meth, c, h1, h2, h3, h4, h5, h6, -, -⟩ := Cond.code_spec hn (atoms_spec (ws := ws) h _ (by rw [hw]; exact List.mem_cons_self))
    exact ⟨meth, c, h1, h2, h3, h4, h5, h6⟩
  · intro p e s m args below meth c s₁ B hml hP _
    have hh0 : s₁.heap = s.heap := by rw [B.state]; rfl
    have ht : ∀ x ∈ c.exceptionTable.toList, False := by
      obtain ⟨meth9, c9, h1, h2, -, -, -, -, h7, -⟩ := Cond.code_spec B.named (atoms_spec (ws := ws) B.pre _ (by rw [hw]; exact List.mem_cons_self))
      cases Option.some.inj (h1.symm.trans B.method)
      cases Option.some.inj (h2.symm.trans (Stand.of_body B).code)
      intro x hx
      rw [Array.isEmpty_iff.mp h7] at hx
      cases hx
    obtain ⟨t, a1, o, b1, b2, b3⟩ := body p e s m args below meth c s₁ B hml ht hP s₁ hh0 (Stand.of_body B)
    exact ⟨t, o, a1, b1, b2, b3⟩
/-- the table of a body with handlers -/
theorem vx_table {p : Program} {x y : MethodName} {S : Spec} {cc bytes : ByteArray} {maxL maxL' : Nat} {ret ret' : Option FieldType} {e : Env} {s s₁ : State} {m : MethodId} {args : Array Value} {below : List Frame} {meth : Method} {c : Code} {hh : List (Nat × Nat × Nat × Nat)}
    (B : BodyLoose p l y S cc maxL ret e s m args below meth c s₁) (h : (Cond.codeWith y bytes maxL' ret' hh).before args s = true) : c.exceptionTable.toList = tableOf hh := by
  obtain ⟨m9, meth9, c9, hn9, h1, h2, -, -, h6, -⟩ := Cond.codeWith_spec h
  cases Option.some.inj (hn9.symm.trans B.named)
  cases Option.some.inj (h1.symm.trans B.method)
  cases Option.some.inj (h2.symm.trans (Stand.of_body B).code)
  rw [← h6, table_eq]
end Bodies
end VXA
/-! ===== END ===== -/
/-! ===== BEGIN a static call of a method with an exception table ===== -/
section VXS
variable {p : Program} {l : Launch} {e : Env} {R : Room} {s : State} {m : MethodId} {args : Array Value} {below : List Frame} {meth : Method} {c : Code} {T : State} {H : Heap} {locs : List Loc} {cells slots : Nat}
abbrev vx_CSW (R : Room) (s : State) (args : Array Value) (own : String) (index : Nat) (y : MethodName) (bytes : ByteArray) (maxL : Nat) (ret : Option FieldType) (hh : List (Nat × Nat × Nat × Nat)) (ws : List Cond) (rm : Room) (mc ms n : Nat) : Prop :=
  (rm.cells = mc ∧ rm.slots = ms ∧ rm.frames + 1 ≤ R.frames ∧ 8 + (maxL + 11) + rm.locals ≤ R.locals ∧ (∀ w ∈ ws, ∀ (a' : Array Value) (U : State), s.WarmedH U.vm → w.before a' U = true) ∧ Cond.codeWith y bytes maxL ret hh ∈ ws) ∧
  (Cond.codeWith y bytes maxL ret hh).before args s = true ∧ (Cond.initialized y.cls).before args s = true ∧ (y.cls ≠ "java/lang/invoke/MethodHandle" ∧ y.cls ≠ "java/lang/invoke/VarHandle") ∧
  (∀ sig, parseMethodDescriptor y.desc = some sig → n = sig.parameters.length) ∧ (Cond.methodLink own index y).before args s = true ∧ (Cond.static y).before args s = true
theorem vx_cwSW {own : String} {index maxL mc ms : Nat} {y : MethodName} {bytes : ByteArray} {ret : Option FieldType} {hh : List (Nat × Nat × Nat × Nat)} {Ts ws ws' : List Cond} {rm : Room} (n : Nat) (ht : ∀ w ∈ Ts, w.before args s = true) (hT : GoodIn Ts (va_wsS own index y ws)) (hw : ws = Cond.codeWith y bytes maxL ret hh :: ws') (hrc : rm.cells = mc) (hrs : rm.slots = ms)
    (hd : y.cls ≠ "java/lang/invoke/MethodHandle" ∧ y.cls ≠ "java/lang/invoke/VarHandle" ∧ (parseMethodDescriptor y.desc).map (fun d => d.parameters.length) = some n) (hR : rm.frames + 1 ≤ R.frames ∧ 8 + (maxL + 11) + rm.locals ≤ R.locals) :
    vx_CSW R s args own index y bytes maxL ret hh ws rm mc ms n := by
  have ok : ∀ w ∈ va_wsS own index y ws, w.before args s = true := fun w h => ht w (hT w h).1
  have hG : GoodIn Ts ws := fun w h => hT w (by unfold va_wsS; exact List.mem_append_right _ h)
  have hc : Cond.codeWith y bytes maxL ret hh ∈ ws := by rw [hw]; exact List.mem_cons_self
  refine ⟨⟨hrc, hrs, hR.1, hR.2, pay_in ht hG, hc⟩, ht _ (hG _ hc).1, ok _ (by simp [va_wsS]), ⟨hd.1, hd.2.1⟩, fun sig h => ?_, ok _ (by simp [va_wsS]), ok _ (by simp [va_wsS])⟩
  have h2 := hd.2.2
  rw [h] at h2
  exact (Option.some.inj h2).symm
theorem vx_callSW (X : Stand p l e R s m args below meth c T locs cells slots) (hexec : p.tables.exec = Jvm.exec) {own : String} {index : Nat} {y : MethodName} {bytes : ByteArray} {maxL : Nat} {ret : Option FieldType} {hh : List (Nat × Nat × Nat × Nat)}
    (hown : s.vm.findClass own = some m.cls) (hlink : (Cond.methodLink own index y).before args s = true) (hstat : (Cond.static y).before args s = true) (hinit : (Cond.initialized y.cls).before args s = true)
    (hcode : (Cond.codeWith y bytes maxL ret hh).before args s = true) (hy : y.cls ≠ "java/lang/invoke/MethodHandle" ∧ y.cls ≠ "java/lang/invoke/VarHandle")
    {W9 : Nat} {Pre : Pt → Array Value → Prop} {Post : Pt → Array Value → Option Value → Pt → Prop} (hK : Back l R p e below s args y 3 W9 Pre Post)
    {g : JFrame} (hg : g.method = m) (hsize : g.locals.size = c.maxLocals) {argsL rest : List Value} (hlen : ∀ sig, parseMethodDescriptor y.desc = some sig → argsL.length = sig.parameters.length)
    (hstack : g.stack = argsL.reverse ++ rest) (hW : 2 * g.monitorRoom + (rest.map fun v => v.category).sum ≤ W9) (hdg : decode c.code g.pc = .ok (.invokestatic index, 3))
    (hpre : ∀ vm₁, s.WarmedH vm₁ → Pre ⟨T.setVm vm₁, locs, cells, slots⟩ argsL.toArray) :
    ∃ (v : Option Value) (vm₁ : Vm) (B : Pt), s.WarmedH vm₁ ∧ Stand p l e R s m args below meth c B.U B.locs B.cells B.slots ∧ Post ⟨T.setVm vm₁, locs, cells, slots⟩ argsL.toArray v B ∧
      ∀ target, Steps p.tables e below (B.U.setTop { g with pc := g.pc + 3, stack := v.toList ++ rest }) target → Steps p.tables e below (T.setTop g) target := by
  obtain ⟨mk, methM, cM, hnamed, hmethM, -, -, -, -, -, -, hsigM⟩ := Cond.codeWith_spec hcode
  have hstatic : methM.isStatic = true := Cond.static_spec hnamed hmethM hstat
  obtain ⟨kP, hkP, -⟩ := className_of_methodNamed hnamed
  have hinitP : kP.init = .initialized := Cond.initialized_spec (findClass_of_methodNamed hnamed) hkP hinit
  obtain ⟨vm₁, X₁, hstep₁⟩ := X.invokestatic hexec hown hlink hnamed hmethM hstatic hkP hinitP hy (g := g) hg (argsL := argsL) (rest := rest) (hlen _ hsigM) hstack hdg
  obtain ⟨v, B, X', hpost, hsteps⟩ := hK m meth c ⟨T.setVm vm₁, locs, cells, slots⟩ { g with stack := rest } (.invokestatic index) mk argsL.toArray X₁ hg hsize hdg hW (X₁.named hnamed) (hpre vm₁ X₁.warmed)
  exact ⟨v, vm₁, B, X₁.warmed, X', hpost, fun target h => hstep₁ _ fun acts => by rw [doInvoke_state]; exact hsteps.trans h⟩
theorem vx_runSW {y : MethodName} {bytes cc : ByteArray} {maxL nL mc ms n index : Nat} {ret : Option FieldType} {hh : List (Nat × Nat × Nat × Nat)} {ws : List Cond} {rm : Room} {Pc : Array Value → State → Prop} {Qc : Array Value → State → Outcome → State → Prop} {free : Addr → Prop} {Ts : List Cond} {own : String} {As rest : List Value} {g : JFrame}
    (S : CallFix p m c cc nL s args Ts own) (hM : Met l y ws rm Pc Qc mc ms free) (cw : vx_CSW R s args own index y bytes maxL ret hh ws rm mc ms n) (hp : PreS s H Pc As)
    (hg : g.method = m) (hn : As.length = n) (hsize : g.locals.size = nL) (hstack : g.stack = As.reverse ++ rest) (hW : 2 * g.monitorRoom + (rest.map fun v => v.category).sum ≤ 8) (hdg : decode cc g.pc = .ok (.invokestatic index, 3)) (hf : cells + mc ≤ R.cells ∧ slots + ms ≤ R.slots) :
    va_Run p l e R s m args below meth c H locs cells slots mc ms g rest (Qc As.toArray) (free) := by
  obtain ⟨⟨hrc, hrs, hfr, hlo, hws, hcw⟩, hcode, hini, hy, hlen, hl, hstt⟩ := cw
  have hK : Back l R p e below s args y 3 8 (PreOf R mc ms Pc) (PostOf Qc mc ms free) := va_backW (hh := hh) (bytes := bytes) (maxL := maxL) (ret := ret) hM hp.1 hrc hrs hfr hlo hws hcw (fun a' U hW => word_at hW (Or.inl (by first | rfl | simp [Cond.onTables, Cond.keeps, Cond.steady])) hini)
  obtain ⟨hx, hb, hml, ho, -⟩ := S
  intro T hT X
  obtain ⟨v, vm₁, ⟨U', l2, c2, s2⟩, hW₁, X', ⟨g', mk, t, L, e1, e2, hq, h1, hL, h2, h3⟩, st⟩ := vx_callSW X hx (hh := hh) (bytes := bytes) (maxL := maxL) (ret := ret) ho hl hstt hini hcode hy hK hg (hsize.trans hml.symm) (argsL := As) (rest := rest) (fun sig h => hn.trans (hlen sig h)) hstack hW (by rw [hb]; exact hdg)
    (fun vm₁ hW₁ => ⟨hf.1, hf.2, hp.2 (T.setVm vm₁) hT hW₁⟩)
  dsimp only [Pt.U, Pt.locs, Pt.cells, Pt.slots] at X' e1 e2 h1 h2 h3 st
  subst h1; subst h2; subst h3
  exact ⟨v, (T.setVm vm₁).calling g' mk As.toArray, t, U', L, hT, X', hL, e1, e2, hq, st⟩
/-- not caught here, past rows that name other classes: it goes on to the caller -/
theorem vx_outP {p : Program} {l : Launch} {e : Env} {R : Room} {s : State} {m : MethodId} {args : Array Value} {below : List Frame} {meth : Method} {c : Code} {H : Heap} {locs : List Loc} {cells slots : Nat} {free : Addr → Prop} {ls : Array Slot} {rest : List Value} {Qc : Array Value → State → Outcome → State → Prop} {XC : String → State → State → Prop}
    {pc : Nat} {own E : String} {ce : Cell} {q : Addr} {mc ms : Nat} (hown : s.vm.findClass own = some m.cls) (hlocks : meth.locks = false)
    (hpass : ∀ z ∈ c.exceptionTable.toList, covers z pc = false ∨ (z.catchType ≠ 0 ∧ ∃ nm : String, (Cond.classLink own z.catchType nm).before args s = true ∧ va_Nc E nm s)) (hcell : H[q]? = some ce) (hv : ce.vm = .none) (hcl : s.vm.findClass E = some ce.cls)
    (hx : ∀ t : State, t.heap = H → s.vm.Alike t.vm → XC E s t) (hf : ∀ z ∈ locs, free z.base) (hc : cells ≤ mc) (hs : slots ≤ ms) :
    vx_W p l e R s m args below meth c H locs cells slots (vx_MQ below Qc XC args s mc ms free) (F0 m pc ls rest) q := by
  intro T hT X
  have hpl : e.platform.magicAccessors = ({} : Platform).magicAccessors := by rw [X.admits.platform]
  obtain ⟨vm', hW', X', st⟩ := X.outThrough hlocks q (g := F0 m pc ls rest) rfl rfl rfl (cell := ce) (by rw [hT]; exact hcell) (by rw [hv]; rfl)
    (by obtain ⟨k9, h9, -⟩ := Vm.findClass_spec hcl; exact ⟨k9, h9⟩) (fun z hz => by
      rcases hpass z hz with h | ⟨hz0, nm, hl1, hn1⟩
      · exact Or.inl h
      · obtain ⟨c6, hc6, hcl6⟩ := Cond.classLink_spec hown hl1 e.platform hpl
        obtain ⟨a8, b8, h1, h2, h3⟩ := hn1
        cases Option.some.inj (h1.symm.trans hcl)
        cases Option.some.inj (h2.symm.trans hc6)
        exact Or.inr ⟨hz0, _, hcl6, h3⟩)
  obtain ⟨g₀, hfr⟩ := X'.frames_eq
  have hcell9 : ((T.setVm vm').setFrames (.throwing q :: below)).heap[q]? = some ce := by
    show T.heap[q]? = some ce
    rw [hT]; exact hcell
  have hend : Ended ((T.setVm vm').setFrames (.throwing q :: below)) below (.threw q) := State.frames_setFrames _ (State.cur_lt_of_frames hfr)
  refine ⟨(T.setVm vm').setFrames (.throwing q :: below), ?_, .threw q, X'.here.running, hend, Or.inr ⟨q, rfl, E, ce, locs, hx _ hT (X'.ends _).1.alike, hcell9, hv, hcl, (X'.ends _).1, (X'.ends _).2.mono hc hs, hf⟩⟩
  rw [X.pushThrowing_eq]
  exact st
/-- a thing of a world lies in the heap -/
theorem vx_lt {D : va_G} {cl : List vw_C} {ws : va_W} {H1 : Heap} (h : va_P D cl ws H1) {k : Nat} {q : Nat × va_E} (hk : ws[k]? = some q) : q.1 < H1.size := (h k q hk).lt
end VXS
/-! ===== END ===== -/
/-! ===== BEGIN methods with a table of their own: called by a name, returning or throwing ===== -/
section VXH
/-! vx_backW, vx_callVX, vx_callSX, vx_callVW, vx_runVW, vx_runVX, vx_runSX, vx_ofWH follow the same proofs as their sisters above (Free/Laws.lean, Shelf42/LK1.lean); vx_outP calls Shelf42/NT130.lean (outThrough). -/
section
variable {l : Launch} {R : Room} {p : Program} {e : Env} {below : List Frame} {s : State} {sargs : Array Value} {y : MethodName} {len W9 : Nat}
theorem vx_backW {ws : List Cond} {rm : Room} {Pc : Array Value → State → Prop} {Qc : Array Value → State → Outcome → State → Prop} {XC : String → State → State → Prop} {mc ms : Nat} {free : Addr → Prop} {bytes : ByteArray} {maxL : Nat} {ret : Option FieldType} {hh : List (Nat × Nat × Nat × Nat)}
    (hM : vx_Met l y ws rm Pc Qc XC mc ms free) (hblind : FrameBlind Pc) (hrc : rm.cells = mc) (hrs : rm.slots = ms)
    (hframes : rm.frames + 1 ≤ R.frames) (hlocals : W9 + (maxL + 11) + rm.locals ≤ R.locals)
    (hws : ∀ w ∈ ws, ∀ a' U, s.WarmedH U.vm → w.before a' U = true) (hcode : Cond.codeWith y bytes maxL ret hh ∈ ws) (hinit : ∀ a' U, s.WarmedH U.vm → (Cond.initialized y.cls).before a' U = true) :
    vx_Back l R p e below s sargs y len W9 (PreOf R mc ms Pc) (PostOf Qc mc ms free) (vx_Post XC mc ms free) := by
  intro m meth c A g ig mk a X hg hsize hdg hW hn hp
  have h1 : (headSpec ws rm).pre.before a A.U = true := atoms_intro fun w hw => hws w hw _ _ X.warmed
  have h2 : (Cond.codeWith y bytes maxL ret hh).before a A.U = true := hws _ hcode _ _ X.warmed
  have h3 : (Cond.initialized y.cls).before a A.U = true := hinit _ _ X.warmed
  have h4 : A.cells + (headSpec ws rm).room.cells ≤ R.cells := by rw [show (headSpec ws rm).room.cells = mc from hrc]; exact hp.1
  have h5 : A.slots + (headSpec ws rm).room.slots ≤ R.slots := by rw [show (headSpec ws rm).room.slots = ms from hrs]; exact hp.2.1
  have hPc : Pc a (A.U.calling g mk a) := hblind _ _ _ _ hp.2.2
  obtain ⟨U, Ls, c0, s0⟩ := A
  dsimp only [Pt.U, Pt.locs, Pt.cells, Pt.slots] at h1 h2 h3 h4 h5 X hn hPc ⊢
  obtain ⟨m9, methY, cY, hn9, hmY, hcY, -, hlY, -⟩ := Cond.codeWith_spec h2
  cases Option.some.inj (hn9.symm.trans hn)
  obtain ⟨kY, hkY, -⟩ := className_of_methodNamed hn
  have hinitY : kY.init = .initialized := Cond.initialized_spec (findClass_of_methodNamed hn) hkY h3
  have h : At U g.method c below := by rw [hg]; exact X.here
  have hlocals9 : W9 + (maxL + 11) + (headSpec ws rm).room.locals ≤ R.locals := hlocals
  have happ : (headSpec ws rm).appliesLoose y e.platform (U.calling g mk a) = true :=
    Spec.appliesLoose_calling (g := g) h hdg hn hkY hinitY
      (X.room_calling (g := g) (R' := (headSpec ws rm).room) hsize hmY hcY hframes (by rw [hlY]; omega) h4 h5) h1
  obtain ⟨mid, hmid⟩ := h.above
  have hfr : (U.setTop g).frames = (.java g :: mid) ++ below := by rw [State.frames_setTop' g h.top, hmid]; rfl
  obtain ⟨o, s₂, hsteps, -, hend, hq⟩ := Steps.callFree hM p X.admits X.cas X.clock (acts := []) hfr happ hPc trivial
  have hq' : vx_Q Qc XC mc ms free a (U.calling g mk a) o s₂ := hq
  rw [State.frames_setTop' g h.top] at hend
  obtain ⟨g₀, hg0⟩ := Option.isSome_iff_exists.mp h.top
  obtain ⟨r, hr⟩ := State.topJava?_eq_some.mp hg0
  have hr' : (({ U with heap := s₂.heap, slotsUsed := s₂.slotsUsed } : State).setVm s₂.vm).frames = .java g₀ :: r := hr
  rcases hq' with ⟨hqc, L, hfe, hL⟩ | ⟨q, rfl, E, ce, L, hx, hce, hcv, hcl, hW₂, hsm, hL⟩
  · obtain ⟨⟨v, rfl⟩, hW₂, e2, q2, q3, q4, q5, q6⟩ := id hfe
    have e3 : s₂ = ({ (U.calling g mk a).setFrames s₂.frames with heap := s₂.heap, slotsUsed := s₂.slotsUsed } : State).setVm s₂.vm := by
      have : s₂ = ({ s₂ with vm := (U.calling g mk a).vm } : State).setVm s₂.vm := rfl
      rw [e2] at this
      exact this
    obtain ⟨c₂, i₂, len₂, hc₂, hd₂, hf₂⟩ := hend
    have hW' : U.WarmedH s₂.vm := hW₂
    have hcc : c₂ = c := by
      have h1 : s₂.code? g.method = U.code? g.method := by
        rw [State.code?_eq, State.code?_eq, hW'.alike.method?]
      exact Option.some.inj (hc₂.symm.trans (h1.trans h.code))
    subst hcc
    have hlen : len₂ = len := by rw [hdg] at hd₂; cases hd₂; rfl
    subst hlen
    have hs₂ : s₂ = (({ U with heap := s₂.heap, slotsUsed := s₂.slotsUsed } : State).setVm s₂.vm).setTop { g with pc := g.pc + len₂, stack := v.toList ++ g.stack } := by
      refine e3.trans ?_
      rw [hf₂, State.calling_eq h.top, State.setFrames_setFrames, State.setTop_of_frames _ hr', hr]
      rfl
    have hsame : U.sameButNew ({ U with heap := s₂.heap, slotsUsed := s₂.slotsUsed } : State) L mc ms := by
      refine ⟨?_, q2, q3, q4, q5, q6⟩
      obtain ⟨t, ht, -⟩ := State.frames_cons hr
      show ({ U with heap := s₂.heap, slotsUsed := s₂.slotsUsed } : State) = { U.setFrames U.frames with heap := s₂.heap, slotsUsed := s₂.slotsUsed }
      rw [State.setFrames_self ht]
    subst hg
    refine Or.inl ⟨v, ⟨(({ U with heap := s₂.heap, slotsUsed := s₂.slotsUsed } : State).setVm s₂.vm), Ls ++ L, c0 + mc, s0 + ms⟩,
      ⟨X.admits, X.cas, X.clock, X.frames, X.room, X.hears, X.method, X.code, (X.here.setHeapUsed s₂.heap s₂.slotsUsed).setVm hW'.alike, X.tail, State.WarmedH.trans X.warmed hW', X.limits, X.bytes, X.same.trans (hsame.setVm s.vm)⟩,
      ⟨g, mk, s₂, L, rfl, rfl, hqc, rfl, hL, rfl, rfl⟩, ?_⟩
    show Steps p.tables e below _ ((({ U with heap := s₂.heap, slotsUsed := s₂.slotsUsed } : State).setVm s₂.vm).setTop { g with pc := g.pc + len₂, stack := v.toList ++ g.stack })
    rw [← hs₂]
    exact hsteps
  · obtain ⟨e2, q2, q3, q4, q5, q6⟩ := id hsm
    have e3 : s₂ = ({ (U.calling g mk a).setFrames s₂.frames with heap := s₂.heap, slotsUsed := s₂.slotsUsed } : State).setVm s₂.vm := by
      have : s₂ = ({ s₂ with vm := (U.calling g mk a).vm } : State).setVm s₂.vm := rfl
      rw [e2] at this
      exact this
    have hf₂ : s₂.frames = .throwing q :: .java g :: U.frames.tail := hend
    have hW' : U.WarmedH s₂.vm := hW₂
    have hs₂ : s₂ = ((({ U with heap := s₂.heap, slotsUsed := s₂.slotsUsed } : State).setVm s₂.vm).setTop g).pushFrame (.throwing q) := by
      refine e3.trans ?_
      rw [hf₂, State.calling_eq h.top, State.setFrames_setFrames, State.pushFrame, State.frames_setTop _ hr', State.setTop_of_frames _ hr', State.setFrames_setFrames, hr]
      rfl
    have hsame : U.sameButNew ({ U with heap := s₂.heap, slotsUsed := s₂.slotsUsed } : State) L mc ms := by
      refine ⟨?_, q2, q3, q4, q5, q6⟩
      obtain ⟨t, ht, -⟩ := State.frames_cons hr
      show ({ U with heap := s₂.heap, slotsUsed := s₂.slotsUsed } : State) = { U.setFrames U.frames with heap := s₂.heap, slotsUsed := s₂.slotsUsed }
      rw [State.setFrames_self ht]
    subst hg
    refine Or.inr ⟨q, ⟨(({ U with heap := s₂.heap, slotsUsed := s₂.slotsUsed } : State).setVm s₂.vm), Ls ++ L, c0 + mc, s0 + ms⟩,
      ⟨X.admits, X.cas, X.clock, X.frames, X.room, X.hears, X.method, X.code, (X.here.setHeapUsed s₂.heap s₂.slotsUsed).setVm hW'.alike, X.tail, State.WarmedH.trans X.warmed hW', X.limits, X.bytes, X.same.trans (hsame.setVm s.vm)⟩,
      ⟨g, mk, s₂, L, E, ce, rfl, rfl, hx, hce, hcv, hcl, rfl, hL, rfl, rfl⟩, ?_⟩
    show Steps p.tables e below _ (((({ U with heap := s₂.heap, slotsUsed := s₂.slotsUsed } : State).setVm s₂.vm).setTop g).pushFrame (.throwing q))
    rw [← hs₂]
    exact hsteps
end
variable {p : Program} {l : Launch} {e : Env} {R : Room} {s : State} {m : MethodId} {args : Array Value} {below : List Frame} {meth : Method} {c : Code} {T : State} {H : Heap} {locs : List Loc} {cells slots : Nat}
theorem vx_callVX (X : Stand p l e R s m args below meth c T locs cells slots) (hexec : p.tables.exec = Jvm.exec) {own C : String} {index : Nat} {y : MethodName} {bytes : ByteArray} {maxL : Nat} {ret : Option FieldType} {hh : List (Nat × Nat × Nat × Nat)}
    (hown : s.vm.findClass own = some m.cls) (hlink : (Cond.methodLink own index y).before args s = true) (hinst : (Cond.instanceMethod y).before args s = true) (hsel : (Cond.selects C y y).before args s = true)
    (hcode : (Cond.codeWith y bytes maxL ret hh).before args s = true) (hy : y.cls ≠ "java/lang/invoke/MethodHandle" ∧ y.cls ≠ "java/lang/invoke/VarHandle")
    {W9 : Nat} {Pre : Pt → Array Value → Prop} {Post : Pt → Array Value → Option Value → Pt → Prop} {PostX : Pt → Array Value → Addr → Pt → Prop} (hK : vx_Back l R p e below s args y 3 W9 Pre Post PostX)
    {b : Addr} {cellB : Cell} (hcell : T.heap[b]? = some cellB) (hobj : cellB.vm.isStatics = false) (hcls : s.vm.findClass C = some cellB.cls)
    {g : JFrame} (hg : g.method = m) (hsize : g.locals.size = c.maxLocals) {argsL rest : List Value} (hlen : ∀ sig, parseMethodDescriptor y.desc = some sig → argsL.length = sig.parameters.length)
    (hstack : g.stack = argsL.reverse ++ .ref b :: rest) (hW : 2 * g.monitorRoom + (rest.map fun v => v.category).sum ≤ W9) (hdg : decode c.code g.pc = .ok (.invokevirtual index, 3))
    (hpre : ∀ vm₁, s.WarmedH vm₁ → Pre ⟨T.setVm vm₁, locs, cells, slots⟩ (Value.ref b :: argsL).toArray) :
    (∃ (v : Option Value) (vm₁ : Vm) (B : Pt), s.WarmedH vm₁ ∧ Stand p l e R s m args below meth c B.U B.locs B.cells B.slots ∧ Post ⟨T.setVm vm₁, locs, cells, slots⟩ (Value.ref b :: argsL).toArray v B ∧
      ∀ target, Steps p.tables e below (B.U.setTop { g with pc := g.pc + 3, stack := v.toList ++ rest }) target → Steps p.tables e below (T.setTop g) target) ∨
    (∃ (q : Addr) (vm₁ : Vm) (B : Pt), s.WarmedH vm₁ ∧ Stand p l e R s m args below meth c B.U B.locs B.cells B.slots ∧ PostX ⟨T.setVm vm₁, locs, cells, slots⟩ (Value.ref b :: argsL).toArray q B ∧
      Steps p.tables e below (T.setTop g) ((B.U.setTop { g with stack := rest }).pushFrame (.throwing q))) := by
  obtain ⟨mk, methM, hnamed, hmethM, hstM, habM⟩ := Cond.instanceMethod_spec hinst
  obtain ⟨m8, methM', cM, hn8, hmethM', -, -, -, -, -, -, hsigM⟩ := Cond.codeWith_spec hcode
  cases Option.some.inj (hn8.symm.trans hnamed)
  cases hmethM.symm.trans hmethM'
  obtain ⟨c2, r2, m2, q1, q2, q3, q4, kP, hkP, hkPi⟩ := Cond.selects_spec hsel
  cases hcls.symm.trans q1
  cases (State.methodFound?_of_named hnamed hy).symm.trans q2
  cases hnamed.symm.trans q3
  have hselP : selectMethod e.platform s.vm cellB.cls mk = .method mk := by rw [Launch.admits_selectMethod X.admits]; exact q4
  obtain ⟨vm₁, X₁, hstep₁⟩ := X.invokevirtual hexec hown hlink hnamed hmethM hstM hkP hkPi hy (a := b) (cell := cellB) hcell
    (fun z h => by rw [h] at hobj; cases hobj) hselP hmethM habM hkP hkPi (g := g) hg (argsL := argsL) (rest := rest) (hlen _ hsigM) hstack hdg
  rcases hK m meth c ⟨T.setVm vm₁, locs, cells, slots⟩ { g with stack := rest } (.invokevirtual index) mk (Value.ref b :: argsL).toArray X₁ hg hsize hdg hW (X₁.named hnamed) (hpre vm₁ X₁.warmed) with ⟨v, B, X', hpost, hsteps⟩ | ⟨q, B, X', hpost, hsteps⟩
  · exact Or.inl ⟨v, vm₁, B, X₁.warmed, X', hpost, fun target h => hstep₁ _ fun acts => by rw [doInvoke_state]; exact hsteps.trans h⟩
  · exact Or.inr ⟨q, vm₁, B, X₁.warmed, X', hpost, hstep₁ _ fun acts => by rw [doInvoke_state]; exact hsteps⟩
theorem vx_callSX (X : Stand p l e R s m args below meth c T locs cells slots) (hexec : p.tables.exec = Jvm.exec) {own : String} {index : Nat} {y : MethodName} {bytes : ByteArray} {maxL : Nat} {ret : Option FieldType} {hh : List (Nat × Nat × Nat × Nat)}
    (hown : s.vm.findClass own = some m.cls) (hlink : (Cond.methodLink own index y).before args s = true) (hstat : (Cond.static y).before args s = true) (hinit : (Cond.initialized y.cls).before args s = true)
    (hcode : (Cond.codeWith y bytes maxL ret hh).before args s = true) (hy : y.cls ≠ "java/lang/invoke/MethodHandle" ∧ y.cls ≠ "java/lang/invoke/VarHandle")
    {W9 : Nat} {Pre : Pt → Array Value → Prop} {Post : Pt → Array Value → Option Value → Pt → Prop} {PostX : Pt → Array Value → Addr → Pt → Prop} (hK : vx_Back l R p e below s args y 3 W9 Pre Post PostX)
    {g : JFrame} (hg : g.method = m) (hsize : g.locals.size = c.maxLocals) {argsL rest : List Value} (hlen : ∀ sig, parseMethodDescriptor y.desc = some sig → argsL.length = sig.parameters.length)
    (hstack : g.stack = argsL.reverse ++ rest) (hW : 2 * g.monitorRoom + (rest.map fun v => v.category).sum ≤ W9) (hdg : decode c.code g.pc = .ok (.invokestatic index, 3))
    (hpre : ∀ vm₁, s.WarmedH vm₁ → Pre ⟨T.setVm vm₁, locs, cells, slots⟩ argsL.toArray) :
    (∃ (v : Option Value) (vm₁ : Vm) (B : Pt), s.WarmedH vm₁ ∧ Stand p l e R s m args below meth c B.U B.locs B.cells B.slots ∧ Post ⟨T.setVm vm₁, locs, cells, slots⟩ argsL.toArray v B ∧
      ∀ target, Steps p.tables e below (B.U.setTop { g with pc := g.pc + 3, stack := v.toList ++ rest }) target → Steps p.tables e below (T.setTop g) target) ∨
    (∃ (q : Addr) (vm₁ : Vm) (B : Pt), s.WarmedH vm₁ ∧ Stand p l e R s m args below meth c B.U B.locs B.cells B.slots ∧ PostX ⟨T.setVm vm₁, locs, cells, slots⟩ argsL.toArray q B ∧
      Steps p.tables e below (T.setTop g) ((B.U.setTop { g with stack := rest }).pushFrame (.throwing q))) := by
  obtain ⟨mk, methM, cM, hnamed, hmethM, -, -, -, -, -, -, hsigM⟩ := Cond.codeWith_spec hcode
  have hstatic : methM.isStatic = true := Cond.static_spec hnamed hmethM hstat
  obtain ⟨kP, hkP, -⟩ := className_of_methodNamed hnamed
  have hinitP : kP.init = .initialized := Cond.initialized_spec (findClass_of_methodNamed hnamed) hkP hinit
  obtain ⟨vm₁, X₁, hstep₁⟩ := X.invokestatic hexec hown hlink hnamed hmethM hstatic hkP hinitP hy (g := g) hg (argsL := argsL) (rest := rest) (hlen _ hsigM) hstack hdg
  rcases hK m meth c ⟨T.setVm vm₁, locs, cells, slots⟩ { g with stack := rest } (.invokestatic index) mk argsL.toArray X₁ hg hsize hdg hW (X₁.named hnamed) (hpre vm₁ X₁.warmed) with ⟨v, B, X', hpost, hsteps⟩ | ⟨q, B, X', hpost, hsteps⟩
  · exact Or.inl ⟨v, vm₁, B, X₁.warmed, X', hpost, fun target h => hstep₁ _ fun acts => by rw [doInvoke_state]; exact hsteps.trans h⟩
  · exact Or.inr ⟨q, vm₁, B, X₁.warmed, X', hpost, hstep₁ _ fun acts => by rw [doInvoke_state]; exact hsteps⟩
theorem vx_callVW (X : Stand p l e R s m args below meth c T locs cells slots) (hexec : p.tables.exec = Jvm.exec) {own C : String} {index : Nat} {y : MethodName} {bytes : ByteArray} {maxL : Nat} {ret : Option FieldType} {hh : List (Nat × Nat × Nat × Nat)}
    (hown : s.vm.findClass own = some m.cls) (hlink : (Cond.methodLink own index y).before args s = true) (hinst : (Cond.instanceMethod y).before args s = true) (hsel : (Cond.selects C y y).before args s = true)
    (hcode : (Cond.codeWith y bytes maxL ret hh).before args s = true) (hy : y.cls ≠ "java/lang/invoke/MethodHandle" ∧ y.cls ≠ "java/lang/invoke/VarHandle")
    {W9 : Nat} {Pre : Pt → Array Value → Prop} {Post : Pt → Array Value → Option Value → Pt → Prop} (hK : Back l R p e below s args y 3 W9 Pre Post)
    {b : Addr} {cellB : Cell} (hcell : T.heap[b]? = some cellB) (hobj : cellB.vm.isStatics = false) (hcls : s.vm.findClass C = some cellB.cls)
    {g : JFrame} (hg : g.method = m) (hsize : g.locals.size = c.maxLocals) {argsL rest : List Value} (hlen : ∀ sig, parseMethodDescriptor y.desc = some sig → argsL.length = sig.parameters.length)
    (hstack : g.stack = argsL.reverse ++ .ref b :: rest) (hW : 2 * g.monitorRoom + (rest.map fun v => v.category).sum ≤ W9) (hdg : decode c.code g.pc = .ok (.invokevirtual index, 3))
    (hpre : ∀ vm₁, s.WarmedH vm₁ → Pre ⟨T.setVm vm₁, locs, cells, slots⟩ (Value.ref b :: argsL).toArray) :
    ∃ (v : Option Value) (vm₁ : Vm) (B : Pt), s.WarmedH vm₁ ∧ Stand p l e R s m args below meth c B.U B.locs B.cells B.slots ∧ Post ⟨T.setVm vm₁, locs, cells, slots⟩ (Value.ref b :: argsL).toArray v B ∧
      ∀ target, Steps p.tables e below (B.U.setTop { g with pc := g.pc + 3, stack := v.toList ++ rest }) target → Steps p.tables e below (T.setTop g) target := by
  obtain ⟨mk, methM, hnamed, hmethM, hstM, habM⟩ := Cond.instanceMethod_spec hinst
  obtain ⟨m8, methM', cM, hn8, hmethM', -, -, -, -, -, -, hsigM⟩ := Cond.codeWith_spec hcode
  cases Option.some.inj (hn8.symm.trans hnamed)
  cases hmethM.symm.trans hmethM'
  obtain ⟨c2, r2, m2, q1, q2, q3, q4, kP, hkP, hkPi⟩ := Cond.selects_spec hsel
  cases hcls.symm.trans q1
  cases (State.methodFound?_of_named hnamed hy).symm.trans q2
  cases hnamed.symm.trans q3
  have hselP : selectMethod e.platform s.vm cellB.cls mk = .method mk := by rw [Launch.admits_selectMethod X.admits]; exact q4
  obtain ⟨vm₁, X₁, hstep₁⟩ := X.invokevirtual hexec hown hlink hnamed hmethM hstM hkP hkPi hy (a := b) (cell := cellB) hcell
    (fun z h => by rw [h] at hobj; cases hobj) hselP hmethM habM hkP hkPi (g := g) hg (argsL := argsL) (rest := rest) (hlen _ hsigM) hstack hdg
  obtain ⟨v, B, X', hpost, hsteps⟩ := hK m meth c ⟨T.setVm vm₁, locs, cells, slots⟩ { g with stack := rest } (.invokevirtual index) mk (Value.ref b :: argsL).toArray X₁ hg hsize hdg hW (X₁.named hnamed) (hpre vm₁ X₁.warmed)
  exact ⟨v, vm₁, B, X₁.warmed, X', hpost, fun target h => hstep₁ _ fun acts => by rw [doInvoke_state]; exact hsteps.trans h⟩
abbrev vx_CVW (R : Room) (s : State) (args : Array Value) (own C : String) (index : Nat) (y : MethodName) (bytes : ByteArray) (maxL : Nat) (ret : Option FieldType) (hh : List (Nat × Nat × Nat × Nat)) (ws : List Cond) (rm : Room) (mc ms n : Nat) : Prop :=
  (rm.cells = mc ∧ rm.slots = ms ∧ rm.frames + 1 ≤ R.frames ∧ 8 + (maxL + 11) + rm.locals ≤ R.locals ∧ (∀ w ∈ ws, ∀ (a' : Array Value) (U : State), s.WarmedH U.vm → w.before a' U = true) ∧ Cond.codeWith y bytes maxL ret hh ∈ ws) ∧
  (Cond.codeWith y bytes maxL ret hh).before args s = true ∧ (Cond.initialized y.cls).before args s = true ∧ (y.cls ≠ "java/lang/invoke/MethodHandle" ∧ y.cls ≠ "java/lang/invoke/VarHandle") ∧
  (∀ sig, parseMethodDescriptor y.desc = some sig → n = sig.parameters.length) ∧ (Cond.methodLink own index y).before args s = true ∧ (Cond.instanceMethod y).before args s = true ∧ (Cond.selects C y y).before args s = true
theorem vx_cwVW {own C : String} {index maxL mc ms : Nat} {y : MethodName} {bytes : ByteArray} {ret : Option FieldType} {hh : List (Nat × Nat × Nat × Nat)} {Ts ws ws' : List Cond} {rm : Room} (n : Nat) (ht : ∀ w ∈ Ts, w.before args s = true) (hT : GoodIn Ts (wsV own index C y ws)) (hw : ws = Cond.codeWith y bytes maxL ret hh :: ws') (hrc : rm.cells = mc) (hrs : rm.slots = ms)
    (hd : y.cls = C ∧ y.cls ≠ "java/lang/invoke/MethodHandle" ∧ y.cls ≠ "java/lang/invoke/VarHandle" ∧ (parseMethodDescriptor y.desc).map (fun d => d.parameters.length) = some n) (hR : rm.frames + 1 ≤ R.frames ∧ 8 + (maxL + 11) + rm.locals ≤ R.locals) :
    vx_CVW R s args own C index y bytes maxL ret hh ws rm mc ms n := by
  obtain ⟨hC, hd⟩ := hd
  subst hC
  have ok : ∀ w ∈ wsV own index y.cls y ws, w.before args s = true := fun w h => ht w (hT w h).1
  have hG : GoodIn Ts ws := fun w h => hT w (by unfold wsV; exact List.mem_append_right _ h)
  have hc : Cond.codeWith y bytes maxL ret hh ∈ ws := by rw [hw]; exact List.mem_cons_self
  refine ⟨⟨hrc, hrs, hR.1, hR.2, pay_in ht hG, hc⟩, ht _ (hG _ hc).1, ok _ (by simp [wsV]), ⟨hd.1, hd.2.1⟩, fun sig h => ?_, ok _ (by simp [wsV]), ok _ (by simp [wsV]), ok _ (by simp [wsV])⟩
  have h2 := hd.2.2
  rw [h] at h2
  exact (Option.some.inj h2).symm
theorem vx_runVW {y : MethodName} {bytes cc : ByteArray} {maxL nL mc ms n index : Nat} {ret : Option FieldType} {hh : List (Nat × Nat × Nat × Nat)} {ws : List Cond} {rm : Room} {Pc : Array Value → State → Prop} {Qc : Array Value → State → Outcome → State → Prop} {free : Addr → Prop} {Ts : List Cond} {own C : String} {b : Addr} {As rest : List Value} {g : JFrame}
    (S : CallFix p m c cc nL s args Ts own) (hM : Met l y ws rm Pc Qc mc ms free) (cw : vx_CVW R s args own C index y bytes maxL ret hh ws rm mc ms n) (hp : PreV s H C b Pc As)
    (hg : g.method = m) (hn : As.length = n) (hsize : g.locals.size = nL) (hstack : g.stack = As.reverse ++ .ref b :: rest) (hW : 2 * g.monitorRoom + (rest.map fun v => v.category).sum ≤ 8) (hdg : decode cc g.pc = .ok (.invokevirtual index, 3)) (hf : cells + mc ≤ R.cells ∧ slots + ms ≤ R.slots) :
    va_Run p l e R s m args below meth c H locs cells slots mc ms g rest (Qc (Value.ref b :: As).toArray) free := by
  obtain ⟨⟨hrc, hrs, hfr, hlo, hws, hcw⟩, hcode, hini, hy, hlen, hl, hin, hse⟩ := cw
  have hK : Back l R p e below s args y 3 8 (PreOf R mc ms Pc) (PostOf Qc mc ms free) := va_backW (hh := hh) (bytes := bytes) (maxL := maxL) (ret := ret) hM hp.1 hrc hrs hfr hlo hws hcw (fun a' U hW => word_at hW (Or.inl (by first | rfl | simp [Cond.onTables, Cond.keeps, Cond.steady])) hini)
  obtain ⟨hx, hb, hml, ho, -⟩ := S
  obtain ⟨-, ⟨cellB, hcB, hoB, hclB⟩, hPc⟩ := hp
  intro T hT X
  obtain ⟨v, vm₁, ⟨U', l2, c2, s2⟩, hW₁, X', ⟨g', mk, t, L, e1, e2, hq, h1, hL, h2, h3⟩, st⟩ := vx_callVW X hx (C := C) (hh := hh) (bytes := bytes) (maxL := maxL) (ret := ret) ho hl hin hse hcode hy hK (by rw [hT]; exact hcB) hoB hclB hg (hsize.trans hml.symm) (argsL := As) (rest := rest) (fun sig h => hn.trans (hlen sig h)) hstack hW (by rw [hb]; exact hdg)
    (fun vm₁ hW₁ => ⟨hf.1, hf.2, hPc (T.setVm vm₁) hT hW₁⟩)
  dsimp only [Pt.U, Pt.locs, Pt.cells, Pt.slots] at X' e1 e2 h1 h2 h3 st
  subst h1; subst h2; subst h3
  exact ⟨v, (T.setVm vm₁).calling g' mk (Value.ref b :: As).toArray, t, U', L, hT, X', hL, e1, e2, hq, st⟩
section
variable {y : MethodName} {bytes cc : ByteArray} {maxL nL mc ms n index : Nat} {ret : Option FieldType} {ws : List Cond} {rm : Room} {Pc : Array Value → State → Prop} {Qc : Array Value → State → Outcome → State → Prop} {XC : String → State → State → Prop} {free : Addr → Prop} {Ts : List Cond} {own C : String} {b : Addr} {As rest : List Value} {g : JFrame}
theorem vx_runVX {hh : List (Nat × Nat × Nat × Nat)} (S : CallFix p m c cc nL s args Ts own) (hM : vx_Met l y ws rm Pc Qc XC mc ms free) (cw : vx_CVW R s args own C index y bytes maxL ret hh ws rm mc ms n) (hp : PreV s H C b Pc As)
    (hg : g.method = m) (hn : As.length = n) (hsize : g.locals.size = nL) (hstack : g.stack = As.reverse ++ .ref b :: rest) (hW : 2 * g.monitorRoom + (rest.map fun v => v.category).sum ≤ 8) (hdg : decode cc g.pc = .ok (.invokevirtual index, 3)) (hf : cells + mc ≤ R.cells ∧ slots + ms ≤ R.slots) :
    vx_Run p l e R s m args below meth c H locs cells slots mc ms g rest (Qc (Value.ref b :: As).toArray) XC free := by
  obtain ⟨⟨hrc, hrs, hfr, hlo, hws, hcw⟩, hcode, hini, hy, hlen, hl, hin, hse⟩ := cw
  have hK : vx_Back l R p e below s args y 3 8 (PreOf R mc ms Pc) (PostOf Qc mc ms free) (vx_Post XC mc ms free) := vx_backW (hh := hh) (bytes := bytes) (maxL := maxL) (ret := ret) hM hp.1 hrc hrs hfr hlo hws hcw (fun a' U hW => word_at hW (Or.inl (by first | rfl | simp [Cond.onTables, Cond.keeps, Cond.steady])) hini)
  obtain ⟨hx, hb, hml, ho, -⟩ := S
  obtain ⟨-, ⟨cellB, hcB, hoB, hclB⟩, hPc⟩ := hp
  intro T hT X
  rcases vx_callVX X hx (C := C) (hh := hh) (bytes := bytes) (maxL := maxL) (ret := ret) ho hl hin hse hcode hy hK (by rw [hT]; exact hcB) hoB hclB hg (hsize.trans hml.symm) (argsL := As) (rest := rest) (fun sig h => hn.trans (hlen sig h)) hstack hW (by rw [hb]; exact hdg)
    (fun vm₁ hW₁ => ⟨hf.1, hf.2, hPc (T.setVm vm₁) hT hW₁⟩) with ⟨v, vm₁, ⟨U', l2, c2, s2⟩, hW₁, X', ⟨g', mk, t, L, e1, e2, hq, h1, hL, h2, h3⟩, st⟩ | ⟨q, vm₁, ⟨U', l2, c2, s2⟩, hW₁, X', ⟨g', mk, t, L, E, ce, e1, e2, hq, hce, hcv, hcl, h1, hL, h2, h3⟩, st⟩
  · dsimp only [Pt.U, Pt.locs, Pt.cells, Pt.slots] at X' e1 e2 h1 h2 h3 st
    subst h1; subst h2; subst h3
    exact Or.inl ⟨v, (T.setVm vm₁).calling g' mk (Value.ref b :: As).toArray, t, U', L, hT, X', hL, e1, e2, hq, st⟩
  · dsimp only [Pt.U, Pt.locs, Pt.cells, Pt.slots] at X' e1 e2 h1 h2 h3 st hcl
    subst h1; subst h2; subst h3
    exact Or.inr ⟨q, (T.setVm vm₁).calling g' mk (Value.ref b :: As).toArray, t, U', L, E, ce, hT, X', hL, e1, e2, hq, hce, hcv, vx_cls hW₁ hcl, st⟩
theorem vx_runSX {hh : List (Nat × Nat × Nat × Nat)} (S : CallFix p m c cc nL s args Ts own) (hM : vx_Met l y ws rm Pc Qc XC mc ms free) (cw : vx_CSW R s args own index y bytes maxL ret hh ws rm mc ms n) (hp : PreS s H Pc As)
    (hg : g.method = m) (hn : As.length = n) (hsize : g.locals.size = nL) (hstack : g.stack = As.reverse ++ rest) (hW : 2 * g.monitorRoom + (rest.map fun v => v.category).sum ≤ 8) (hdg : decode cc g.pc = .ok (.invokestatic index, 3)) (hf : cells + mc ≤ R.cells ∧ slots + ms ≤ R.slots) :
    vx_Run p l e R s m args below meth c H locs cells slots mc ms g rest (Qc As.toArray) XC free := by
  obtain ⟨⟨hrc, hrs, hfr, hlo, hws, hcw⟩, hcode, hini, hy, hlen, hl, hstt⟩ := cw
  have hK : vx_Back l R p e below s args y 3 8 (PreOf R mc ms Pc) (PostOf Qc mc ms free) (vx_Post XC mc ms free) := vx_backW (hh := hh) (bytes := bytes) (maxL := maxL) (ret := ret) hM hp.1 hrc hrs hfr hlo hws hcw (fun a' U hW => word_at hW (Or.inl (by first | rfl | simp [Cond.onTables, Cond.keeps, Cond.steady])) hini)
  obtain ⟨hx, hb, hml, ho, -⟩ := S
  intro T hT X
  rcases vx_callSX X hx (hh := hh) (bytes := bytes) (maxL := maxL) (ret := ret) ho hl hstt hini hcode hy hK hg (hsize.trans hml.symm) (argsL := As) (rest := rest) (fun sig h => hn.trans (hlen sig h)) hstack hW (by rw [hb]; exact hdg)
    (fun vm₁ hW₁ => ⟨hf.1, hf.2, hp.2 (T.setVm vm₁) hT hW₁⟩) with ⟨v, vm₁, ⟨U', l2, c2, s2⟩, hW₁, X', ⟨g', mk, t, L, e1, e2, hq, h1, hL, h2, h3⟩, st⟩ | ⟨q, vm₁, ⟨U', l2, c2, s2⟩, hW₁, X', ⟨g', mk, t, L, E, ce, e1, e2, hq, hce, hcv, hcl, h1, hL, h2, h3⟩, st⟩
  · dsimp only [Pt.U, Pt.locs, Pt.cells, Pt.slots] at X' e1 e2 h1 h2 h3 st
    subst h1; subst h2; subst h3
    exact Or.inl ⟨v, (T.setVm vm₁).calling g' mk As.toArray, t, U', L, hT, X', hL, e1, e2, hq, st⟩
  · dsimp only [Pt.U, Pt.locs, Pt.cells, Pt.slots] at X' e1 e2 h1 h2 h3 st hcl
    subst h1; subst h2; subst h3
    exact Or.inr ⟨q, (T.setVm vm₁).calling g' mk As.toArray, t, U', L, E, ce, hT, X', hL, e1, e2, hq, hce, hcv, vx_cls hW₁ hcl, st⟩
end
end VXH
theorem vx_ofWH {l : Launch} {y : MethodName} {ws ws' : List Cond} {rm : Room} {Pc : Array Value → State → Prop} {Qc : Array Value → State → Outcome → State → Prop} {XC : String → State → State → Prop} {mc ms : Nat} {free : Addr → Prop} {cc : ByteArray} {maxL : Nat} {ret : Option FieldType} {hh : List (Nat × Nat × Nat × Nat)}
    (hy : plainName y.cls = true) (hw : ws = Cond.codeWith y cc maxL ret hh :: ws')
    (body : ∀ p e s m args below meth c s₁, BodyLoose p l y (headSpec ws rm) cc maxL ret e s m args below meth c s₁ → c.maxLocals = maxL → Pc args s →
      W p l e (headSpec ws rm).room s m args below meth c s.heap [] 0 0 (vx_MQ below Qc XC args s mc ms free) (entryFrame m args maxL)) : vx_Met l y ws rm Pc Qc XC mc ms free := by
  refine MetFree.of_bodyS (code := cc) (maxLocals := maxL) (ret := ret) hy ?_ ?_
  · intro args s m h hn
    obtain ⟨m9, meth, c, hn9, h1, h2, h3, h4, -, h5, h6, -⟩ := Cond.codeWith_spec (atoms_spec (ws := ws) h _ (by rw [hw]; exact List.mem_cons_self))
    cases hn.symm.trans hn9
    exact ⟨meth, c, h1, h2, h3, h4, h5, h6⟩
  · intro p e s m args below meth c s₁ B hml hP _
    have hh0 : s₁.heap = s.heap := by rw [B.state]; rfl
    obtain ⟨t, a1, o, b1, b2, b3⟩ := body p e s m args below meth c s₁ B hml hP s₁ hh0 (Stand.of_body B)
    exact ⟨t, o, a1, b1, b2, b3⟩
/-! ===== END ===== -/
end
section
/-! ===== BEGIN printed: names, fields, word lists, decode rows ===== -/
def RX0 : String := "BeadParley$Barter"
def TX0 : u_T := fun k => match k with
  | 0 => ("BeadParley$Barter", "gives", "[I", true)
  | 1 => ("BeadParley$Barter", "wants", "[I", true)
  | 2 => ("BeadParley$Barter", "ready", "[Z", true)
  | 3 => ("BeadParley$Barter", "row", "[I", true)
  | 4 => ("BeadParley$Barter", "best", "[I", true)
  | _ => ("BeadParley$Barter", "bestLength", "I", false)
def tyX0 : Nat → FieldType := fun k => match k with
  | 0 => .array .int
  | 1 => .array .int
  | 2 => .array .boolean
  | 3 => .array .int
  | 4 => .array .int
  | _ => .int
abbrev wsX00 : List Cond := u_ws RX0 TX0 6
theorem nmX0 : ∀ a, a < 6 → ∀ b, b < 6 → a ≠ b → (TX0 a).2.1 ≠ (TX0 b).2.1 := by decide +kernel
theorem tyX0_ok : ∀ k, k < 6 → parseFieldDescriptor (TX0 k).2.2.1 = some (tyX0 k) := by decide +kernel
abbrev cX0_init : ByteArray := prog_2_method_1_code
def yX0_init : MethodName := ⟨RX0, "<init>", "()V"⟩
abbrev cX0_hasWish : ByteArray := prog_2_method_2_code
def yX0_hasWish : MethodName := ⟨RX0, "hasWish", "(I)Z"⟩
abbrev cX0_setWish : ByteArray := prog_2_method_3_code
def yX0_setWish : MethodName := ⟨RX0, "setWish", "(III)V"⟩
abbrev cX0_markReady : ByteArray := prog_2_method_4_code
def yX0_markReady : MethodName := ⟨RX0, "markReady", "([[I)V"⟩
abbrev cX0_getsFrom : ByteArray := prog_2_method_5_code
def yX0_getsFrom : MethodName := ⟨RX0, "getsFrom", "(II)Z"⟩
abbrev cX0_findBest : ByteArray := prog_2_method_6_code
def yX0_findBest : MethodName := ⟨RX0, "findBest", "([[I)V"⟩
abbrev cX0_extend : ByteArray := prog_2_method_7_code
def yX0_extend : MethodName := ⟨RX0, "extend", "(LBeadParley$Barter;I)V"⟩
abbrev cX0_isInRow : ByteArray := prog_2_method_8_code
def yX0_isInRow : MethodName := ⟨RX0, "isInRow", "(II)Z"⟩
abbrev cX0_exchange : ByteArray := prog_2_method_9_code
def yX0_exchange : MethodName := ⟨RX0, "exchange", "([[I)V"⟩
abbrev cX0_longestByOrders : ByteArray := prog_2_method_10_code
def yX0_longestByOrders : MethodName := ⟨RX0, "longestByOrders", "([[I)I"⟩
abbrev cX0_longestAtStartOfRow : ByteArray := prog_2_method_11_code
def yX0_longestAtStartOfRow : MethodName := ⟨RX0, "longestAtStartOfRow", "(I)I"⟩
abbrev cX0_nextOrder : ByteArray := prog_2_method_12_code
def yX0_nextOrder : MethodName := ⟨RX0, "nextOrder", "(I)Z"⟩
abbrev cX0_swap : ByteArray := prog_2_method_13_code
def yX0_swap : MethodName := ⟨RX0, "swap", "(II)V"⟩
def RX1 : String := "BeadParley$Grid"
def TX1 : u_T := fun k => match k with
  | 0 => ("BeadParley$Grid", "cells", "[I", true)
  | 1 => ("BeadParley$Grid", "columns", "I", false)
  | _ => ("BeadParley$Grid", "rows", "I", false)
def tyX1 : Nat → FieldType := fun k => match k with
  | 0 => .array .int
  | 1 => .int
  | _ => .int
abbrev wsX10 : List Cond := u_ws RX1 TX1 3
theorem nmX1 : ∀ a, a < 3 → ∀ b, b < 3 → a ≠ b → (TX1 a).2.1 ≠ (TX1 b).2.1 := by decide +kernel
theorem tyX1_ok : ∀ k, k < 3 → parseFieldDescriptor (TX1 k).2.2.1 = some (tyX1 k) := by decide +kernel
abbrev cX1_init : ByteArray := prog_3_method_1_code
def yX1_init : MethodName := ⟨RX1, "<init>", "()V"⟩
abbrev cX1_begin : ByteArray := prog_3_method_2_code
def yX1_begin : MethodName := ⟨RX1, "begin", "(II)V"⟩
abbrev cX1_copyFrom : ByteArray := prog_3_method_3_code
def yX1_copyFrom : MethodName := ⟨RX1, "copyFrom", "(LBeadParley$Grid;)V"⟩
abbrev cX1_size : ByteArray := prog_3_method_4_code
def yX1_size : MethodName := ⟨RX1, "size", "()I"⟩
abbrev cX1_hasCell : ByteArray := prog_3_method_5_code
def yX1_hasCell : MethodName := ⟨RX1, "hasCell", "(II)Z"⟩
abbrev cX1_colourAt : ByteArray := prog_3_method_6_code
def yX1_colourAt : MethodName := ⟨RX1, "colourAt", "(II)I"⟩
abbrev cX1_paint : ByteArray := prog_3_method_7_code
def yX1_paint : MethodName := ⟨RX1, "paint", "(III)V"⟩
abbrev cX1_cellsOf : ByteArray := prog_3_method_8_code
def yX1_cellsOf : MethodName := ⟨RX1, "cellsOf", "(I)I"⟩
abbrev cX1_hasImage : ByteArray := prog_3_method_9_code
def yX1_hasImage : MethodName := ⟨RX1, "hasImage", "(ILBeadParley$Grid;)Z"⟩
abbrev cX1_colourInImage : ByteArray := prog_3_method_10_code
def yX1_colourInImage : MethodName := ⟨RX1, "colourInImage", "(III)I"⟩
abbrev cX1_placesOf : ByteArray := prog_3_method_11_code
def yX1_placesOf : MethodName := ⟨RX1, "placesOf", "(LBeadParley$Grid;)I"⟩
abbrev cX1_shows : ByteArray := prog_3_method_12_code
def yX1_shows : MethodName := ⟨RX1, "shows", "(LBeadParley$Grid;II)Z"⟩
def RX2 : String := "BeadParley"
def TX2 : u_T := fun k => match k with
  | 0 => ("BeadParley", "hands", "[[I", true)
  | 1 => ("BeadParley", "stall", "[I", true)
  | 2 => ("BeadParley", "broughtSoFar", "[I", true)
  | 3 => ("BeadParley", "draftGrid", "LBeadParley$Grid;", true)
  | 4 => ("BeadParley", "patternGrids", "[LBeadParley$Grid;", true)
  | 5 => ("BeadParley", "patternAuthors", "[I", true)
  | 6 => ("BeadParley", "patternCount", "I", false)
  | 7 => ("BeadParley", "beltPatterns", "[I", true)
  | 8 => ("BeadParley", "beltOwners", "[I", true)
  | 9 => ("BeadParley", "creditsOf", "[I", true)
  | 10 => ("BeadParley", "barter", "LBeadParley$Barter;", true)
  | 11 => ("BeadParley", "signGrids", "[LBeadParley$Grid;", true)
  | 12 => ("BeadParley", "signWorths", "[I", true)
  | 13 => ("BeadParley", "signCount", "I", false)
  | _ => ("BeadParley", "heard", "[J", true)
def tyX2 : Nat → FieldType := fun k => match k with
  | 0 => .array (.array .int)
  | 1 => .array .int
  | 2 => .array .int
  | 3 => .object "BeadParley$Grid"
  | 4 => .array (.object "BeadParley$Grid")
  | 5 => .array .int
  | 6 => .int
  | 7 => .array .int
  | 8 => .array .int
  | 9 => .array .int
  | 10 => .object "BeadParley$Barter"
  | 11 => .array (.object "BeadParley$Grid")
  | 12 => .array .int
  | 13 => .int
  | _ => .array .long
abbrev wsX20 : List Cond := u_ws RX2 TX2 15
theorem nmX2 : ∀ a, a < 15 → ∀ b, b < 15 → a ≠ b → (TX2 a).2.1 ≠ (TX2 b).2.1 := by decide +kernel
theorem tyX2_ok : ∀ k, k < 15 → parseFieldDescriptor (TX2 k).2.2.1 = some (tyX2 k) := by decide +kernel
abbrev cX2_init : ByteArray := prog_1_method_1_code
def yX2_init : MethodName := ⟨RX2, "<init>", "()V"⟩
abbrev cX2_bring : ByteArray := prog_1_method_2_code
def yX2_bring : MethodName := ⟨RX2, "bring", "(III)I"⟩
abbrev cX2_lay : ByteArray := prog_1_method_3_code
def yX2_lay : MethodName := ⟨RX2, "lay", "(III)I"⟩
abbrev cX2_hand : ByteArray := prog_1_method_4_code
def yX2_hand : MethodName := ⟨RX2, "hand", "(II)I"⟩
abbrev cX2_beads : ByteArray := prog_1_method_5_code
def yX2_beads : MethodName := ⟨RX2, "beads", "(I)I"⟩
abbrev cX2_brought : ByteArray := prog_1_method_6_code
def yX2_brought : MethodName := ⟨RX2, "brought", "(I)I"⟩
abbrev cX2_draft : ByteArray := prog_1_method_7_code
def yX2_draft : MethodName := ⟨RX2, "draft", "(II)I"⟩
abbrev cX2_bead : ByteArray := prog_1_method_8_code
def yX2_bead : MethodName := ⟨RX2, "bead", "(III)I"⟩
abbrev cX2_pattern : ByteArray := prog_1_method_9_code
def yX2_pattern : MethodName := ⟨RX2, "pattern", "(I)I"⟩
abbrev cX2_patterns : ByteArray := prog_1_method_10_code
def yX2_patterns : MethodName := ⟨RX2, "patterns", "()I"⟩
abbrev cX2_symmetries : ByteArray := prog_1_method_11_code
def yX2_symmetries : MethodName := ⟨RX2, "symmetries", "(I)I"⟩
abbrev cX2_origin : ByteArray := prog_1_method_12_code
def yX2_origin : MethodName := ⟨RX2, "origin", "(I)I"⟩
abbrev cX2_needs : ByteArray := prog_1_method_13_code
def yX2_needs : MethodName := ⟨RX2, "needs", "(II)I"⟩
abbrev cX2_weave : ByteArray := prog_1_method_14_code
def yX2_weave : MethodName := ⟨RX2, "weave", "(II)I"⟩
abbrev cX2_apart : ByteArray := prog_1_method_15_code
def yX2_apart : MethodName := ⟨RX2, "apart", "(I)I"⟩
abbrev cX2_give : ByteArray := prog_1_method_16_code
def yX2_give : MethodName := ⟨RX2, "give", "(II)I"⟩
abbrev cX2_owner : ByteArray := prog_1_method_17_code
def yX2_owner : MethodName := ⟨RX2, "owner", "(I)I"⟩
abbrev cX2_credits : ByteArray := prog_1_method_18_code
def yX2_credits : MethodName := ⟨RX2, "credits", "(I)I"⟩
abbrev cX2_wish : ByteArray := prog_1_method_19_code
def yX2_wish : MethodName := ⟨RX2, "wish", "(III)Z"⟩
abbrev cX2_unwish : ByteArray := prog_1_method_20_code
def yX2_unwish : MethodName := ⟨RX2, "unwish", "(I)Z"⟩
abbrev cX2_chain : ByteArray := prog_1_method_21_code
def yX2_chain : MethodName := ⟨RX2, "chain", "()I"⟩
abbrev cX2_chainByOrders : ByteArray := prog_1_method_22_code
def yX2_chainByOrders : MethodName := ⟨RX2, "chainByOrders", "()I"⟩
abbrev cX2_chainAt : ByteArray := prog_1_method_23_code
def yX2_chainAt : MethodName := ⟨RX2, "chainAt", "(I)I"⟩
abbrev cX2_fair : ByteArray := prog_1_method_24_code
def yX2_fair : MethodName := ⟨RX2, "fair", "()I"⟩
abbrev cX2_sign : ByteArray := prog_1_method_25_code
def yX2_sign : MethodName := ⟨RX2, "sign", "(I)I"⟩
abbrev cX2_stands : ByteArray := prog_1_method_26_code
def yX2_stands : MethodName := ⟨RX2, "stands", "(II)I"⟩
abbrev cX2_story : ByteArray := prog_1_method_27_code
def yX2_story : MethodName := ⟨RX2, "story", "(I)I"⟩
abbrev cX2_hear : ByteArray := prog_1_method_28_code
def yX2_hear : MethodName := ⟨RX2, "hear", "(II)J"⟩
abbrev cX2_ranked : ByteArray := prog_1_method_29_code
def yX2_ranked : MethodName := ⟨RX2, "ranked", "(I)I"⟩
abbrev cX2_checkPerson : ByteArray := prog_1_method_30_code
def yX2_checkPerson : MethodName := ⟨RX2, "checkPerson", "(I)V"⟩
abbrev cX2_checkColour : ByteArray := prog_1_method_31_code
def yX2_checkColour : MethodName := ⟨RX2, "checkColour", "(I)V"⟩
abbrev cX2_checkPattern : ByteArray := prog_1_method_32_code
def yX2_checkPattern : MethodName := ⟨RX2, "checkPattern", "(I)V"⟩
abbrev cX2_checkBelt : ByteArray := prog_1_method_33_code
def yX2_checkBelt : MethodName := ⟨RX2, "checkBelt", "(I)V"⟩
abbrev cX2_checkRange : ByteArray := prog_1_method_34_code
def yX2_checkRange : MethodName := ⟨RX2, "checkRange", "(III)V"⟩
abbrev cX2_isBelt : ByteArray := prog_1_method_35_code
def yX2_isBelt : MethodName := ⟨RX2, "isBelt", "(I)Z"⟩
abbrev cX2_lowestFreeBelt : ByteArray := prog_1_method_36_code
def yX2_lowestFreeBelt : MethodName := ⟨RX2, "lowestFreeBelt", "()I"⟩
abbrev cX2_originOf : ByteArray := prog_1_method_37_code
def yX2_originOf : MethodName := ⟨RX2, "originOf", "(I)I"⟩
abbrev cX2_storyOf : ByteArray := prog_1_method_38_code
def yX2_storyOf : MethodName := ⟨RX2, "storyOf", "(I)I"⟩
abbrev cX2_rankOf : ByteArray := prog_1_method_39_code
def yX2_rankOf : MethodName := ⟨RX2, "rankOf", "(I)I"⟩
def RX3 : String := "BeadParleyModel"
def TX3 : u_T := fun k => match k with
  | 0 => ("BeadParleyModel", "thrown", "I", false)
  | 1 => ("BeadParleyModel", "hands", "[I", true)
  | 2 => ("BeadParleyModel", "stall", "[I", true)
  | 3 => ("BeadParleyModel", "brought", "[I", true)
  | 4 => ("BeadParleyModel", "columns", "I", false)
  | 5 => ("BeadParleyModel", "rows", "I", false)
  | 6 => ("BeadParleyModel", "draft", "[I", true)
  | 7 => ("BeadParleyModel", "patterns", "I", false)
  | 8 => ("BeadParleyModel", "patternColumns", "[I", true)
  | 9 => ("BeadParleyModel", "patternRows", "[I", true)
  | 10 => ("BeadParleyModel", "cells", "[I", true)
  | 11 => ("BeadParleyModel", "author", "[I", true)
  | 12 => ("BeadParleyModel", "origin", "[I", true)
  | 13 => ("BeadParleyModel", "beltPattern", "[I", true)
  | 14 => ("BeadParleyModel", "owner", "[I", true)
  | 15 => ("BeadParleyModel", "credits", "[I", true)
  | 16 => ("BeadParleyModel", "gives", "[I", true)
  | 17 => ("BeadParleyModel", "wants", "[I", true)
  | 18 => ("BeadParleyModel", "chain", "[I", true)
  | 19 => ("BeadParleyModel", "tried", "[I", true)
  | 20 => ("BeadParleyModel", "signs", "I", false)
  | 21 => ("BeadParleyModel", "signColumns", "[I", true)
  | 22 => ("BeadParleyModel", "signRows", "[I", true)
  | 23 => ("BeadParleyModel", "signCells", "[I", true)
  | 24 => ("BeadParleyModel", "worth", "[I", true)
  | _ => ("BeadParleyModel", "heard", "[J", true)
def tyX3 : Nat → FieldType := fun k => match k with
  | 0 => .int
  | 1 => .array .int
  | 2 => .array .int
  | 3 => .array .int
  | 4 => .int
  | 5 => .int
  | 6 => .array .int
  | 7 => .int
  | 8 => .array .int
  | 9 => .array .int
  | 10 => .array .int
  | 11 => .array .int
  | 12 => .array .int
  | 13 => .array .int
  | 14 => .array .int
  | 15 => .array .int
  | 16 => .array .int
  | 17 => .array .int
  | 18 => .array .int
  | 19 => .array .int
  | 20 => .int
  | 21 => .array .int
  | 22 => .array .int
  | 23 => .array .int
  | 24 => .array .int
  | _ => .array .long
abbrev wsX30 : List Cond := u_ws RX3 TX3 26
theorem nmX3 : ∀ a, a < 26 → ∀ b, b < 26 → a ≠ b → (TX3 a).2.1 ≠ (TX3 b).2.1 := by decide +kernel
theorem tyX3_ok : ∀ k, k < 26 → parseFieldDescriptor (TX3 k).2.2.1 = some (tyX3 k) := by decide +kernel
abbrev cX3_init : ByteArray := prog_5_method_1_code
def yX3_init : MethodName := ⟨RX3, "<init>", "()V"⟩
abbrev cX3_thrown : ByteArray := prog_5_method_2_code
def yX3_thrown : MethodName := ⟨RX3, "thrown", "()I"⟩
abbrev cX3_isIn : ByteArray := prog_5_method_3_code
def yX3_isIn : MethodName := ⟨RX3, "isIn", "(III)Z"⟩
abbrev cX3_isPerson : ByteArray := prog_5_method_4_code
def yX3_isPerson : MethodName := ⟨RX3, "isPerson", "(I)Z"⟩
abbrev cX3_isColour : ByteArray := prog_5_method_5_code
def yX3_isColour : MethodName := ⟨RX3, "isColour", "(I)Z"⟩
abbrev cX3_isPattern : ByteArray := prog_5_method_6_code
def yX3_isPattern : MethodName := ⟨RX3, "isPattern", "(I)Z"⟩
abbrev cX3_isBelt : ByteArray := prog_5_method_7_code
def yX3_isBelt : MethodName := ⟨RX3, "isBelt", "(I)Z"⟩
abbrev cX3_bring : ByteArray := prog_5_method_8_code
def yX3_bring : MethodName := ⟨RX3, "bring", "(III)I"⟩
abbrev cX3_lay : ByteArray := prog_5_method_9_code
def yX3_lay : MethodName := ⟨RX3, "lay", "(III)I"⟩
abbrev cX3_hand : ByteArray := prog_5_method_10_code
def yX3_hand : MethodName := ⟨RX3, "hand", "(II)I"⟩
abbrev cX3_needsOf : ByteArray := prog_5_method_11_code
def yX3_needsOf : MethodName := ⟨RX3, "needsOf", "(II)I"⟩
abbrev cX3_at : ByteArray := prog_5_method_12_code
def yX3_at : MethodName := ⟨RX3, "at", "(III)I"⟩
abbrev cX3_beads : ByteArray := prog_5_method_13_code
def yX3_beads : MethodName := ⟨RX3, "beads", "(I)I"⟩
abbrev cX3_brought : ByteArray := prog_5_method_14_code
def yX3_brought : MethodName := ⟨RX3, "brought", "(I)I"⟩
abbrev cX3_draft : ByteArray := prog_5_method_15_code
def yX3_draft : MethodName := ⟨RX3, "draft", "(II)I"⟩
abbrev cX3_bead : ByteArray := prog_5_method_16_code
def yX3_bead : MethodName := ⟨RX3, "bead", "(III)I"⟩
abbrev cX3_image : ByteArray := prog_5_method_17_code
def yX3_image : MethodName := ⟨RX3, "image", "(IIIIZ)I"⟩
abbrev cX3_isImage : ByteArray := prog_5_method_18_code
def yX3_isImage : MethodName := ⟨RX3, "isImage", "(IIIZ)Z"⟩
abbrev cX3_pattern : ByteArray := prog_5_method_19_code
def yX3_pattern : MethodName := ⟨RX3, "pattern", "(I)I"⟩
abbrev cX3_patterns : ByteArray := prog_5_method_20_code
def yX3_patterns : MethodName := ⟨RX3, "patterns", "()I"⟩
abbrev cX3_asks : ByteArray := prog_5_method_21_code
def yX3_asks : MethodName := ⟨RX3, "asks", "(I)Z"⟩
abbrev cX3_symmetries : ByteArray := prog_5_method_22_code
def yX3_symmetries : MethodName := ⟨RX3, "symmetries", "(I)I"⟩
abbrev cX3_origin : ByteArray := prog_5_method_23_code
def yX3_origin : MethodName := ⟨RX3, "origin", "(I)I"⟩
abbrev cX3_needs : ByteArray := prog_5_method_24_code
def yX3_needs : MethodName := ⟨RX3, "needs", "(II)I"⟩
abbrev cX3_freeBelt : ByteArray := prog_5_method_25_code
def yX3_freeBelt : MethodName := ⟨RX3, "freeBelt", "()I"⟩
abbrev cX3_weave : ByteArray := prog_5_method_26_code
def yX3_weave : MethodName := ⟨RX3, "weave", "(II)I"⟩
abbrev cX3_apart : ByteArray := prog_5_method_27_code
def yX3_apart : MethodName := ⟨RX3, "apart", "(I)I"⟩
abbrev cX3_give : ByteArray := prog_5_method_28_code
def yX3_give : MethodName := ⟨RX3, "give", "(II)I"⟩
abbrev cX3_owner : ByteArray := prog_5_method_29_code
def yX3_owner : MethodName := ⟨RX3, "owner", "(I)I"⟩
abbrev cX3_credits : ByteArray := prog_5_method_30_code
def yX3_credits : MethodName := ⟨RX3, "credits", "(I)I"⟩
abbrev cX3_wish : ByteArray := prog_5_method_31_code
def yX3_wish : MethodName := ⟨RX3, "wish", "(III)Z"⟩
abbrev cX3_unwish : ByteArray := prog_5_method_32_code
def yX3_unwish : MethodName := ⟨RX3, "unwish", "(I)Z"⟩
abbrev cX3_canGive : ByteArray := prog_5_method_33_code
def yX3_canGive : MethodName := ⟨RX3, "canGive", "(I)Z"⟩
abbrev cX3_isRow : ByteArray := prog_5_method_34_code
def yX3_isRow : MethodName := ⟨RX3, "isRow", "(I)Z"⟩
abbrev cX3_finds : ByteArray := prog_5_method_35_code
def yX3_finds : MethodName := ⟨RX3, "finds", "()I"⟩
abbrev cX3_chain : ByteArray := prog_5_method_36_code
def yX3_chain : MethodName := ⟨RX3, "chain", "()I"⟩
abbrev cX3_chainByOrders : ByteArray := prog_5_method_37_code
def yX3_chainByOrders : MethodName := ⟨RX3, "chainByOrders", "()I"⟩
abbrev cX3_chainAt : ByteArray := prog_5_method_38_code
def yX3_chainAt : MethodName := ⟨RX3, "chainAt", "(I)I"⟩
abbrev cX3_fair : ByteArray := prog_5_method_39_code
def yX3_fair : MethodName := ⟨RX3, "fair", "()I"⟩
abbrev cX3_sign : ByteArray := prog_5_method_40_code
def yX3_sign : MethodName := ⟨RX3, "sign", "(I)I"⟩
abbrev cX3_standsAt : ByteArray := prog_5_method_41_code
def yX3_standsAt : MethodName := ⟨RX3, "standsAt", "(IIII)Z"⟩
abbrev cX3_standsIn : ByteArray := prog_5_method_42_code
def yX3_standsIn : MethodName := ⟨RX3, "standsIn", "(II)I"⟩
abbrev cX3_stands : ByteArray := prog_5_method_43_code
def yX3_stands : MethodName := ⟨RX3, "stands", "(II)I"⟩
abbrev cX3_storyOf : ByteArray := prog_5_method_44_code
def yX3_storyOf : MethodName := ⟨RX3, "storyOf", "(I)I"⟩
abbrev cX3_story : ByteArray := prog_5_method_45_code
def yX3_story : MethodName := ⟨RX3, "story", "(I)I"⟩
abbrev cX3_hear : ByteArray := prog_5_method_46_code
def yX3_hear : MethodName := ⟨RX3, "hear", "(II)J"⟩
abbrev cX3_ranked : ByteArray := prog_5_method_47_code
def yX3_ranked : MethodName := ⟨RX3, "ranked", "(I)I"⟩
def RJx145de : String := "java/io/Serializable"
def TJx145de : u_T := fun k => match k with
  | _ => ("", "", "", false)
def tyJx145de : Nat → FieldType := fun k => match k with
  | _ => .int
abbrev wsJx145de0 : List Cond := u_ws RJx145de TJx145de 0
theorem nmJx145de : ∀ a, a < 0 → ∀ b, b < 0 → a ≠ b → (TJx145de a).2.1 ≠ (TJx145de b).2.1 := by decide +kernel
theorem tyJx145de_ok : ∀ k, k < 0 → parseFieldDescriptor (TJx145de k).2.2.1 = some (tyJx145de k) := by decide +kernel
def RJ9 : String := "java/lang/Math"
def TJ9 : u_T := fun k => match k with
  | _ => ("", "", "", false)
def tyJ9 : Nat → FieldType := fun k => match k with
  | _ => .int
abbrev wsJ90 : List Cond := u_ws RJ9 TJ9 0
theorem nmJ9 : ∀ a, a < 0 → ∀ b, b < 0 → a ≠ b → (TJ9 a).2.1 ≠ (TJ9 b).2.1 := by decide +kernel
theorem tyJ9_ok : ∀ k, k < 0 → parseFieldDescriptor (TJ9 k).2.2.1 = some (tyJ9 k) := by decide +kernel
abbrev cJ9_max_7cf53 : ByteArray := prog_10_method_65_code
def yJ9_max_7cf53 : MethodName := ⟨RJ9, "max", "(II)I"⟩
def RJ0 : String := "java/lang/String"
def TJ0 : u_T := fun k => match k with
  | _ => ("", "", "", false)
def tyJ0 : Nat → FieldType := fun k => match k with
  | _ => .int
abbrev wsJ00 : List Cond := u_ws RJ0 TJ0 0
theorem nmJ0 : ∀ a, a < 0 → ∀ b, b < 0 → a ≠ b → (TJ0 a).2.1 ≠ (TJ0 b).2.1 := by decide +kernel
theorem tyJ0_ok : ∀ k, k < 0 → parseFieldDescriptor (TJ0 k).2.2.1 = some (tyJ0 k) := by decide +kernel
def RJ10 : String := "java/lang/System"
def TJ10 : u_T := fun k => match k with
  | _ => ("", "", "", false)
def tyJ10 : Nat → FieldType := fun k => match k with
  | _ => .int
abbrev wsJ100 : List Cond := u_ws RJ10 TJ10 0
theorem nmJ10 : ∀ a, a < 0 → ∀ b, b < 0 → a ≠ b → (TJ10 a).2.1 ≠ (TJ10 b).2.1 := by decide +kernel
theorem tyJ10_ok : ∀ k, k < 0 → parseFieldDescriptor (TJ10 k).2.2.1 = some (tyJ10 k) := by decide +kernel
def RJ7 : String := "java/util/Arrays"
def TJ7 : u_T := fun k => match k with
  | _ => ("", "", "", false)
def tyJ7 : Nat → FieldType := fun k => match k with
  | _ => .int
abbrev wsJ70 : List Cond := u_ws RJ7 TJ7 0
theorem nmJ7 : ∀ a, a < 0 → ∀ b, b < 0 → a ≠ b → (TJ7 a).2.1 ≠ (TJ7 b).2.1 := by decide +kernel
theorem tyJ7_ok : ∀ k, k < 0 → parseFieldDescriptor (TJ7 k).2.2.1 = some (tyJ7 k) := by decide +kernel
abbrev cJ7_fill_53178 : ByteArray := prog_15_method_103_code
def yJ7_fill_53178 : MethodName := ⟨RJ7, "fill", "([II)V"⟩
def RL : String := "BeadParleyLaw"
abbrev cL_bring : ByteArray := method_3_code
def yL_bring : MethodName := ⟨RL, "bring", "(LBeadParley;III[J)I"⟩
abbrev cL_lay : ByteArray := method_4_code
def yL_lay : MethodName := ⟨RL, "lay", "(LBeadParley;III[J)I"⟩
abbrev cL_hand : ByteArray := method_5_code
def yL_hand : MethodName := ⟨RL, "hand", "(LBeadParley;II[J)I"⟩
abbrev cL_beads : ByteArray := method_6_code
def yL_beads : MethodName := ⟨RL, "beads", "(LBeadParley;I[J)I"⟩
abbrev cL_brought : ByteArray := method_7_code
def yL_brought : MethodName := ⟨RL, "brought", "(LBeadParley;I[J)I"⟩
abbrev cL_draft : ByteArray := method_8_code
def yL_draft : MethodName := ⟨RL, "draft", "(LBeadParley;II[J)I"⟩
abbrev cL_bead : ByteArray := method_9_code
def yL_bead : MethodName := ⟨RL, "bead", "(LBeadParley;III[J)I"⟩
abbrev cL_pattern : ByteArray := method_10_code
def yL_pattern : MethodName := ⟨RL, "pattern", "(LBeadParley;I[J)I"⟩
abbrev cL_symmetries : ByteArray := method_11_code
def yL_symmetries : MethodName := ⟨RL, "symmetries", "(LBeadParley;I[J)I"⟩
abbrev cL_origin : ByteArray := method_12_code
def yL_origin : MethodName := ⟨RL, "origin", "(LBeadParley;I[J)I"⟩
abbrev cL_needs : ByteArray := method_13_code
def yL_needs : MethodName := ⟨RL, "needs", "(LBeadParley;II[J)I"⟩
abbrev cL_weave : ByteArray := method_14_code
def yL_weave : MethodName := ⟨RL, "weave", "(LBeadParley;II[J)I"⟩
abbrev cL_apart : ByteArray := method_15_code
def yL_apart : MethodName := ⟨RL, "apart", "(LBeadParley;I[J)I"⟩
abbrev cL_give : ByteArray := method_16_code
def yL_give : MethodName := ⟨RL, "give", "(LBeadParley;II[J)I"⟩
abbrev cL_owner : ByteArray := method_17_code
def yL_owner : MethodName := ⟨RL, "owner", "(LBeadParley;I[J)I"⟩
abbrev cL_credits : ByteArray := method_18_code
def yL_credits : MethodName := ⟨RL, "credits", "(LBeadParley;I[J)I"⟩
abbrev cL_wish : ByteArray := method_19_code
def yL_wish : MethodName := ⟨RL, "wish", "(LBeadParley;III[J)I"⟩
abbrev cL_unwish : ByteArray := method_20_code
def yL_unwish : MethodName := ⟨RL, "unwish", "(LBeadParley;I[J)I"⟩
abbrev cL_chainAt : ByteArray := method_21_code
def yL_chainAt : MethodName := ⟨RL, "chainAt", "(LBeadParley;I[J)I"⟩
abbrev cL_sign : ByteArray := method_22_code
def yL_sign : MethodName := ⟨RL, "sign", "(LBeadParley;I[J)I"⟩
abbrev cL_stands : ByteArray := method_23_code
def yL_stands : MethodName := ⟨RL, "stands", "(LBeadParley;II[J)I"⟩
abbrev cL_story : ByteArray := method_24_code
def yL_story : MethodName := ⟨RL, "story", "(LBeadParley;I[J)I"⟩
abbrev cL_hear : ByteArray := method_25_code
def yL_hear : MethodName := ⟨RL, "hear", "(LBeadParley;II[J)I"⟩
abbrev cL_ranked : ByteArray := method_26_code
def yL_ranked : MethodName := ⟨RL, "ranked", "(LBeadParley;I[J)I"⟩
abbrev cL_law : ByteArray := code
def yL_law : MethodName := ⟨RL, "law", "([I)Z"⟩
def wsJ7_fill_53178 : List Cond := .code yJ7_fill_53178 cJ7_fill_53178 4 none :: ([])
def wsX0_init : List Cond := .code yX0_init cX0_init 1 none :: ([.methodLink RX0 3 objectInit, .instanceMethod objectInit, .code objectInit ⟨#[0xb1]⟩ 1 none, .arrayClass .int, .fieldLink RX0 9 "BeadParley$Barter" "gives" "[I", .fieldLink RX0 15 "BeadParley$Barter" "wants" "[I", .arrayClass .boolean, .fieldLink RX0 18 "BeadParley$Barter" "ready" "[Z", .fieldLink RX0 22 "BeadParley$Barter" "row" "[I", .fieldLink RX0 25 "BeadParley$Barter" "best" "[I", .methodLink RX0 28 yJ7_fill_53178, .static yJ7_fill_53178, .initialized RJ7, .code yJ7_fill_53178 cJ7_fill_53178 4 none] ++ wsX00)
def wsX0_hasWish : List Cond := .code yX0_hasWish cX0_hasWish 2 (some .boolean) :: ([.fieldLink RX0 9 "BeadParley$Barter" "gives" "[I"] ++ wsX00)
def wsX0_setWish : List Cond := .code yX0_setWish cX0_setWish 4 none :: ([.fieldLink RX0 9 "BeadParley$Barter" "gives" "[I", .fieldLink RX0 15 "BeadParley$Barter" "wants" "[I"] ++ wsX00)
def wsX0_markReady : List Cond := .code yX0_markReady cX0_markReady 3 none :: ([.fieldLink RX0 18 "BeadParley$Barter" "ready" "[Z", .fieldLink RX0 9 "BeadParley$Barter" "gives" "[I", .methodLink RX0 34 yX0_hasWish, .instanceMethod yX0_hasWish, .selects RX0 yX0_hasWish yX0_hasWish, .initialized RX0, .code yX0_hasWish cX0_hasWish 2 (some .boolean)] ++ wsX00)
def wsX0_getsFrom : List Cond := .code yX0_getsFrom cX0_getsFrom 3 (some .boolean) :: ([.fieldLink RX0 15 "BeadParley$Barter" "wants" "[I", .fieldLink RX0 9 "BeadParley$Barter" "gives" "[I"] ++ wsX00)
def wsX0_isInRow : List Cond := .code yX0_isInRow cX0_isInRow 4 (some .boolean) :: ([.fieldLink RX0 22 "BeadParley$Barter" "row" "[I"] ++ wsX00)
def wsX0_extend : List Cond := .code yX0_extend cX0_extend 5 none :: ([.fieldLink RX0 22 "BeadParley$Barter" "row" "[I", .fieldLink RX0 42 "BeadParley$Barter" "bestLength" "I", .fieldLink RX0 25 "BeadParley$Barter" "best" "[I", .methodLink RX0 54 arraycopyName, .native arraycopyName, .static arraycopyName, .initialized "java/lang/System", .fieldLink RX0 18 "BeadParley$Barter" "ready" "[Z", .methodLink RX0 50 yX0_getsFrom, .instanceMethod yX0_getsFrom, .selects RX0 yX0_getsFrom yX0_getsFrom, .initialized RX0, .code yX0_getsFrom cX0_getsFrom 3 (some .boolean), .fieldLink RX0 15 "BeadParley$Barter" "wants" "[I", .fieldLink RX0 9 "BeadParley$Barter" "gives" "[I", .methodLink RX0 60 yX0_isInRow, .instanceMethod yX0_isInRow, .selects RX0 yX0_isInRow yX0_isInRow, .code yX0_isInRow cX0_isInRow 4 (some .boolean), .methodLink RX0 46 yX0_extend, .static yX0_extend] ++ wsX00)
def wsX0_findBest_r1 : List Cond := [Cond.fieldLink RX0 42 "BeadParley$Barter" "bestLength" "I", Cond.fieldLink RX0 18 "BeadParley$Barter" "ready" "[Z", Cond.fieldLink RX0 22 "BeadParley$Barter" "row" "[I", Cond.methodLink RX0 38 yX0_markReady, Cond.instanceMethod yX0_markReady, Cond.selects RX0 yX0_markReady yX0_markReady, Cond.initialized RX0, Cond.code yX0_markReady cX0_markReady 3 none, Cond.fieldLink RX0 9 "BeadParley$Barter" "gives" "[I", Cond.methodLink RX0 34 yX0_hasWish, Cond.instanceMethod yX0_hasWish, Cond.selects RX0 yX0_hasWish yX0_hasWish, Cond.code yX0_hasWish cX0_hasWish 2 (some .boolean), Cond.methodLink RX0 46 yX0_extend, Cond.static yX0_extend, Cond.code yX0_extend cX0_extend 5 none, Cond.fieldLink RX0 25 "BeadParley$Barter" "best" "[I", Cond.methodLink RX0 54 arraycopyName, Cond.native arraycopyName, Cond.static arraycopyName, Cond.initialized "java/lang/System", Cond.methodLink RX0 50 yX0_getsFrom, Cond.instanceMethod yX0_getsFrom, Cond.selects RX0 yX0_getsFrom yX0_getsFrom]
def wsX0_findBest_r2 : List Cond := [Cond.code yX0_getsFrom cX0_getsFrom 3 (some .boolean), Cond.fieldLink RX0 15 "BeadParley$Barter" "wants" "[I", Cond.methodLink RX0 60 yX0_isInRow, Cond.instanceMethod yX0_isInRow, Cond.selects RX0 yX0_isInRow yX0_isInRow, Cond.code yX0_isInRow cX0_isInRow 4 (some .boolean)]
def wsX0_findBest : List Cond := .code yX0_findBest cX0_findBest 3 none :: ((wsX0_findBest_r1 ++ wsX0_findBest_r2) ++ wsX00)
def wsX0_exchange : List Cond := .code yX0_exchange cX0_exchange 5 none :: ([.fieldLink RX0 42 "BeadParley$Barter" "bestLength" "I", .fieldLink RX0 25 "BeadParley$Barter" "best" "[I", .fieldLink RX0 15 "BeadParley$Barter" "wants" "[I"] ++ wsX00)
def wsX0_longestAtStartOfRow : List Cond := .code yX0_longestAtStartOfRow cX0_longestAtStartOfRow 4 (some .int) :: ([.fieldLink RX0 22 "BeadParley$Barter" "row" "[I", .methodLink RX0 50 yX0_getsFrom, .instanceMethod yX0_getsFrom, .selects RX0 yX0_getsFrom yX0_getsFrom, .initialized RX0, .code yX0_getsFrom cX0_getsFrom 3 (some .boolean), .fieldLink RX0 15 "BeadParley$Barter" "wants" "[I", .fieldLink RX0 9 "BeadParley$Barter" "gives" "[I"] ++ wsX00)
def wsX0_swap : List Cond := .code yX0_swap cX0_swap 4 none :: ([.fieldLink RX0 22 "BeadParley$Barter" "row" "[I"] ++ wsX00)
def wsX0_nextOrder : List Cond := .code yX0_nextOrder cX0_nextOrder 6 (some .boolean) :: ([.fieldLink RX0 22 "BeadParley$Barter" "row" "[I", .methodLink RX0 76 yX0_swap, .instanceMethod yX0_swap, .selects RX0 yX0_swap yX0_swap, .initialized RX0, .code yX0_swap cX0_swap 4 none] ++ wsX00)
def wsX0_longestByOrders_r1 : List Cond := [Cond.fieldLink RX0 18 "BeadParley$Barter" "ready" "[Z", Cond.fieldLink RX0 22 "BeadParley$Barter" "row" "[I", Cond.methodLink RX0 67 Lib.Math.max.name, Cond.static Lib.Math.max.name, Cond.initialized "java/lang/Math", Cond.code Lib.Math.max.name Lib.Math.max.code 2 (some .int), Cond.methodLink RX0 38 yX0_markReady, Cond.instanceMethod yX0_markReady, Cond.selects RX0 yX0_markReady yX0_markReady, Cond.initialized RX0, Cond.code yX0_markReady cX0_markReady 3 none, Cond.fieldLink RX0 9 "BeadParley$Barter" "gives" "[I", Cond.methodLink RX0 34 yX0_hasWish, Cond.instanceMethod yX0_hasWish, Cond.selects RX0 yX0_hasWish yX0_hasWish, Cond.code yX0_hasWish cX0_hasWish 2 (some .boolean), Cond.methodLink RX0 63 yX0_longestAtStartOfRow, Cond.instanceMethod yX0_longestAtStartOfRow, Cond.selects RX0 yX0_longestAtStartOfRow yX0_longestAtStartOfRow, Cond.code yX0_longestAtStartOfRow cX0_longestAtStartOfRow 4 (some .int), Cond.methodLink RX0 50 yX0_getsFrom, Cond.instanceMethod yX0_getsFrom, Cond.selects RX0 yX0_getsFrom yX0_getsFrom, Cond.code yX0_getsFrom cX0_getsFrom 3 (some .boolean)]
def wsX0_longestByOrders_r2 : List Cond := [Cond.fieldLink RX0 15 "BeadParley$Barter" "wants" "[I", Cond.methodLink RX0 73 yX0_nextOrder, Cond.instanceMethod yX0_nextOrder, Cond.selects RX0 yX0_nextOrder yX0_nextOrder, Cond.code yX0_nextOrder cX0_nextOrder 6 (some .boolean), Cond.methodLink RX0 76 yX0_swap, Cond.instanceMethod yX0_swap, Cond.selects RX0 yX0_swap yX0_swap, Cond.code yX0_swap cX0_swap 4 none]
def wsX0_longestByOrders : List Cond := .code yX0_longestByOrders cX0_longestByOrders 6 (some .int) :: ((wsX0_longestByOrders_r1 ++ wsX0_longestByOrders_r2) ++ wsX00)
def wsX1_init : List Cond := .code yX1_init cX1_init 1 none :: ([.methodLink RX1 3 objectInit, .instanceMethod objectInit, .code objectInit ⟨#[0xb1]⟩ 1 none, .arrayClass .int, .fieldLink RX1 9 "BeadParley$Grid" "cells" "[I", .fieldLink RX1 15 "BeadParley$Grid" "columns" "I", .fieldLink RX1 19 "BeadParley$Grid" "rows" "I"] ++ wsX10)
def wsX1_begin : List Cond := .code yX1_begin cX1_begin 3 none :: ([.fieldLink RX1 15 "BeadParley$Grid" "columns" "I", .fieldLink RX1 19 "BeadParley$Grid" "rows" "I", .fieldLink RX1 9 "BeadParley$Grid" "cells" "[I", .methodLink RX1 22 yJ7_fill_53178, .static yJ7_fill_53178, .initialized RJ7, .code yJ7_fill_53178 cJ7_fill_53178 4 none] ++ wsX10)
def wsX1_copyFrom : List Cond := .code yX1_copyFrom cX1_copyFrom 2 none :: ([.fieldLink RX1 15 "BeadParley$Grid" "columns" "I", .fieldLink RX1 19 "BeadParley$Grid" "rows" "I", .fieldLink RX1 9 "BeadParley$Grid" "cells" "[I", .methodLink RX1 28 arraycopyName, .native arraycopyName, .static arraycopyName, .initialized "java/lang/System"] ++ wsX10)
def wsX1_size : List Cond := .code yX1_size cX1_size 1 (some .int) :: ([.fieldLink RX1 15 "BeadParley$Grid" "columns" "I", .fieldLink RX1 19 "BeadParley$Grid" "rows" "I"] ++ wsX10)
def wsX1_hasCell : List Cond := .code yX1_hasCell cX1_hasCell 3 (some .boolean) :: ([.fieldLink RX1 15 "BeadParley$Grid" "columns" "I", .fieldLink RX1 19 "BeadParley$Grid" "rows" "I"] ++ wsX10)
def wsX1_colourAt : List Cond := .code yX1_colourAt cX1_colourAt 3 (some .int) :: ([.fieldLink RX1 9 "BeadParley$Grid" "cells" "[I", .fieldLink RX1 15 "BeadParley$Grid" "columns" "I"] ++ wsX10)
def wsX1_paint : List Cond := .code yX1_paint cX1_paint 4 none :: ([.fieldLink RX1 9 "BeadParley$Grid" "cells" "[I", .fieldLink RX1 15 "BeadParley$Grid" "columns" "I"] ++ wsX10)
def wsX1_cellsOf : List Cond := .code yX1_cellsOf cX1_cellsOf 4 (some .int) :: ([.fieldLink RX1 9 "BeadParley$Grid" "cells" "[I", .methodLink RX1 34 yX1_size, .instanceMethod yX1_size, .selects RX1 yX1_size yX1_size, .initialized RX1, .code yX1_size cX1_size 1 (some .int), .fieldLink RX1 15 "BeadParley$Grid" "columns" "I", .fieldLink RX1 19 "BeadParley$Grid" "rows" "I"] ++ wsX10)
def wsX1_colourInImage : List Cond := .code yX1_colourInImage cX1_colourInImage 6 (some .int) :: ([.fieldLink RX1 19 "BeadParley$Grid" "rows" "I", .fieldLink RX1 15 "BeadParley$Grid" "columns" "I", .methodLink RX1 42 yX1_colourAt, .instanceMethod yX1_colourAt, .selects RX1 yX1_colourAt yX1_colourAt, .initialized RX1, .code yX1_colourAt cX1_colourAt 3 (some .int), .fieldLink RX1 9 "BeadParley$Grid" "cells" "[I"] ++ wsX10)
def wsX1_hasImage : List Cond := .code yX1_hasImage cX1_hasImage 6 (some .boolean) :: ([.fieldLink RX1 15 "BeadParley$Grid" "columns" "I", .fieldLink RX1 19 "BeadParley$Grid" "rows" "I", .methodLink RX1 38 yX1_colourInImage, .instanceMethod yX1_colourInImage, .selects RX1 yX1_colourInImage yX1_colourInImage, .initialized RX1, .code yX1_colourInImage cX1_colourInImage 6 (some .int), .methodLink RX1 42 yX1_colourAt, .instanceMethod yX1_colourAt, .selects RX1 yX1_colourAt yX1_colourAt, .code yX1_colourAt cX1_colourAt 3 (some .int), .fieldLink RX1 9 "BeadParley$Grid" "cells" "[I"] ++ wsX10)
def wsX1_shows : List Cond := .code yX1_shows cX1_shows 6 (some .boolean) :: ([.fieldLink RX1 19 "BeadParley$Grid" "rows" "I", .fieldLink RX1 15 "BeadParley$Grid" "columns" "I", .methodLink RX1 42 yX1_colourAt, .instanceMethod yX1_colourAt, .selects RX1 yX1_colourAt yX1_colourAt, .initialized RX1, .code yX1_colourAt cX1_colourAt 3 (some .int), .fieldLink RX1 9 "BeadParley$Grid" "cells" "[I"] ++ wsX10)
def wsX1_placesOf : List Cond := .code yX1_placesOf cX1_placesOf 5 (some .int) :: ([.fieldLink RX1 19 "BeadParley$Grid" "rows" "I", .fieldLink RX1 15 "BeadParley$Grid" "columns" "I", .methodLink RX1 46 yX1_shows, .instanceMethod yX1_shows, .selects RX1 yX1_shows yX1_shows, .initialized RX1, .code yX1_shows cX1_shows 6 (some .boolean), .methodLink RX1 42 yX1_colourAt, .instanceMethod yX1_colourAt, .selects RX1 yX1_colourAt yX1_colourAt, .code yX1_colourAt cX1_colourAt 3 (some .int), .fieldLink RX1 9 "BeadParley$Grid" "cells" "[I"] ++ wsX10)
def wsX2_init_r1 : List Cond := [Cond.methodLink RX2 1 objectInit, Cond.instanceMethod objectInit, Cond.code objectInit ⟨#[0xb1]⟩ 1 none, Cond.classLink RX2 9 "[[I", Cond.arrayClass .int, Cond.fieldLink RX2 11 "BeadParley" "hands" "[[I", Cond.fieldLink RX2 14 "BeadParley" "stall" "[I", Cond.fieldLink RX2 18 "BeadParley" "broughtSoFar" "[I", Cond.classLink RX2 21 RX1, Cond.instantiable RX1 3, Cond.initialized RX1, Cond.fieldLink RX2 24 "BeadParley" "draftGrid" "LBeadParley$Grid;", Cond.fieldLink RX2 28 "BeadParley" "patternGrids" "[LBeadParley$Grid;", Cond.fieldLink RX2 32 "BeadParley" "patternAuthors" "[I", Cond.fieldLink RX2 35 "BeadParley" "beltPatterns" "[I", Cond.fieldLink RX2 38 "BeadParley" "beltOwners" "[I", Cond.fieldLink RX2 41 "BeadParley" "creditsOf" "[I", Cond.classLink RX2 44 RX0, Cond.instantiable RX0 6, Cond.initialized RX0, Cond.fieldLink RX2 47 "BeadParley" "barter" "LBeadParley$Barter;", Cond.fieldLink RX2 51 "BeadParley" "signGrids" "[LBeadParley$Grid;", Cond.fieldLink RX2 54 "BeadParley" "signWorths" "[I", Cond.arrayClass .long]
def wsX2_init_r2 : List Cond := [Cond.fieldLink RX2 57 "BeadParley" "heard" "[J", Cond.instanceMethod yX1_init, Cond.code yX1_init cX1_init 1 none, Cond.methodLink RX1 3 objectInit, Cond.fieldLink RX1 9 "BeadParley$Grid" "cells" "[I", Cond.fieldLink RX1 15 "BeadParley$Grid" "columns" "I", Cond.fieldLink RX1 19 "BeadParley$Grid" "rows" "I", Cond.instanceMethod yX0_init, Cond.code yX0_init cX0_init 1 none, Cond.methodLink RX0 3 objectInit, Cond.fieldLink RX0 9 "BeadParley$Barter" "gives" "[I", Cond.fieldLink RX0 15 "BeadParley$Barter" "wants" "[I", Cond.arrayClass .boolean, Cond.fieldLink RX0 18 "BeadParley$Barter" "ready" "[Z", Cond.fieldLink RX0 22 "BeadParley$Barter" "row" "[I", Cond.fieldLink RX0 25 "BeadParley$Barter" "best" "[I", Cond.methodLink RX0 28 yJ7_fill_53178, Cond.static yJ7_fill_53178, Cond.initialized RJ7, Cond.code yJ7_fill_53178 cJ7_fill_53178 4 none, Cond.methodLink RX2 61 yJ7_fill_53178]
def wsX2_init : List Cond := .code yX2_init cX2_init 2 none :: ((wsX2_init_r1 ++ wsX2_init_r2) ++ wsX20 ++ wsX10 ++ wsX00)
def wsX2_checkPerson : List Cond := .code yX2_checkPerson cX2_checkPerson 1 none :: ([.classLink RX2 108 "java/lang/IndexOutOfBoundsException", .initialized "java/lang/IndexOutOfBoundsException"] ++ (vx_atS RX2 112 "java/lang/IndexOutOfBoundsException" ["java/lang/RuntimeException", "java/lang/Exception"]).filter goodWord)
def wsX2_checkColour : List Cond := .code yX2_checkColour cX2_checkColour 1 none :: ([.classLink RX2 108 "java/lang/IndexOutOfBoundsException", .initialized "java/lang/IndexOutOfBoundsException"] ++ (vx_atS RX2 112 "java/lang/IndexOutOfBoundsException" ["java/lang/RuntimeException", "java/lang/Exception"]).filter goodWord)
def wsX2_checkRange : List Cond := .code yX2_checkRange cX2_checkRange 3 none :: ([.classLink RX2 150 "java/lang/IllegalArgumentException", .initialized "java/lang/IllegalArgumentException"] ++ (vx_atS RX2 154 "java/lang/IllegalArgumentException" ["java/lang/RuntimeException", "java/lang/Exception"]).filter goodWord)
def wsX2_bring : List Cond := .code yX2_bring cX2_bring 5 (some .int) :: ([.classLink RX2 79 "java/lang/IllegalStateException", .initialized "java/lang/IllegalStateException", .fieldLink RX2 11 "BeadParley" "hands" "[[I", .constant RX2 78 (100000), .fieldLink RX2 18 "BeadParley" "broughtSoFar" "[I", .methodLink RX2 67 yX2_checkPerson, .static yX2_checkPerson, .initialized RX2, .code yX2_checkPerson cX2_checkPerson 1 none, .classLink RX2 108 "java/lang/IndexOutOfBoundsException", .initialized "java/lang/IndexOutOfBoundsException", .methodLink RX2 71 yX2_checkColour, .static yX2_checkColour, .code yX2_checkColour cX2_checkColour 1 none, .methodLink RX2 74 yX2_checkRange, .static yX2_checkRange, .code yX2_checkRange cX2_checkRange 3 none, .classLink RX2 150 "java/lang/IllegalArgumentException", .initialized "java/lang/IllegalArgumentException"] ++ wsX20 ++ (vx_atS RX2 83 "java/lang/IllegalStateException" ["java/lang/RuntimeException", "java/lang/Exception"]).filter goodWord ++ (vx_atS RX2 112 "java/lang/IndexOutOfBoundsException" ["java/lang/RuntimeException", "java/lang/Exception"]).filter goodWord ++ (vx_atS RX2 154 "java/lang/IllegalArgumentException" ["java/lang/RuntimeException", "java/lang/Exception"]).filter goodWord)
def wsX2_lay : List Cond := .code yX2_lay cX2_lay 6 (some .int) :: ([.classLink RX2 79 "java/lang/IllegalStateException", .initialized "java/lang/IllegalStateException", .fieldLink RX2 11 "BeadParley" "hands" "[[I", .fieldLink RX2 14 "BeadParley" "stall" "[I", .constant RX2 78 (100000), .methodLink RX2 67 yX2_checkPerson, .static yX2_checkPerson, .initialized RX2, .code yX2_checkPerson cX2_checkPerson 1 none, .classLink RX2 108 "java/lang/IndexOutOfBoundsException", .initialized "java/lang/IndexOutOfBoundsException", .methodLink RX2 71 yX2_checkColour, .static yX2_checkColour, .code yX2_checkColour cX2_checkColour 1 none, .methodLink RX2 74 yX2_checkRange, .static yX2_checkRange, .code yX2_checkRange cX2_checkRange 3 none, .classLink RX2 150 "java/lang/IllegalArgumentException", .initialized "java/lang/IllegalArgumentException"] ++ wsX20 ++ (vx_atS RX2 83 "java/lang/IllegalStateException" ["java/lang/RuntimeException", "java/lang/Exception"]).filter goodWord ++ (vx_atS RX2 112 "java/lang/IndexOutOfBoundsException" ["java/lang/RuntimeException", "java/lang/Exception"]).filter goodWord ++ (vx_atS RX2 154 "java/lang/IllegalArgumentException" ["java/lang/RuntimeException", "java/lang/Exception"]).filter goodWord)
def wsX2_hand : List Cond := .code yX2_hand cX2_hand 3 (some .int) :: ([.fieldLink RX2 11 "BeadParley" "hands" "[[I", .methodLink RX2 67 yX2_checkPerson, .static yX2_checkPerson, .initialized RX2, .code yX2_checkPerson cX2_checkPerson 1 none, .classLink RX2 108 "java/lang/IndexOutOfBoundsException", .initialized "java/lang/IndexOutOfBoundsException", .methodLink RX2 71 yX2_checkColour, .static yX2_checkColour, .code yX2_checkColour cX2_checkColour 1 none] ++ wsX20 ++ (vx_atS RX2 112 "java/lang/IndexOutOfBoundsException" ["java/lang/RuntimeException", "java/lang/Exception"]).filter goodWord)
def wsX2_isBelt : List Cond := .code yX2_isBelt cX2_isBelt 2 (some .boolean) :: ([.fieldLink RX2 35 "BeadParley" "beltPatterns" "[I"] ++ wsX20)
def wsX2_beads_r1 : List Cond := [Cond.fieldLink RX2 14 "BeadParley" "stall" "[I", Cond.fieldLink RX2 11 "BeadParley" "hands" "[[I", Cond.fieldLink RX2 28 "BeadParley" "patternGrids" "[LBeadParley$Grid;", Cond.fieldLink RX2 35 "BeadParley" "beltPatterns" "[I", Cond.methodLink RX2 71 yX2_checkColour, Cond.static yX2_checkColour, Cond.initialized RX2, Cond.code yX2_checkColour cX2_checkColour 1 none, Cond.classLink RX2 108 "java/lang/IndexOutOfBoundsException", Cond.initialized "java/lang/IndexOutOfBoundsException", Cond.methodLink RX2 88 yX2_isBelt, Cond.instanceMethod yX2_isBelt, Cond.selects RX2 yX2_isBelt yX2_isBelt, Cond.code yX2_isBelt cX2_isBelt 2 (some .boolean), Cond.instanceMethod yX1_cellsOf, Cond.initialized RX1, Cond.selects RX1 yX1_cellsOf yX1_cellsOf, Cond.code yX1_cellsOf cX1_cellsOf 4 (some .int), Cond.fieldLink RX1 9 "BeadParley$Grid" "cells" "[I", Cond.methodLink RX1 34 yX1_size, Cond.instanceMethod yX1_size, Cond.selects RX1 yX1_size yX1_size, Cond.code yX1_size cX1_size 1 (some .int), Cond.fieldLink RX1 15 "BeadParley$Grid" "columns" "I"]
def wsX2_beads_r2 : List Cond := [Cond.fieldLink RX1 19 "BeadParley$Grid" "rows" "I"]
def wsX2_beads : List Cond := .code yX2_beads cX2_beads 4 (some .int) :: ((wsX2_beads_r1 ++ wsX2_beads_r2) ++ wsX20 ++ wsX10 ++ (vx_atS RX2 112 "java/lang/IndexOutOfBoundsException" ["java/lang/RuntimeException", "java/lang/Exception"]).filter goodWord)
def wsX2_brought : List Cond := .code yX2_brought cX2_brought 2 (some .int) :: ([.fieldLink RX2 18 "BeadParley" "broughtSoFar" "[I", .methodLink RX2 71 yX2_checkColour, .static yX2_checkColour, .initialized RX2, .code yX2_checkColour cX2_checkColour 1 none, .classLink RX2 108 "java/lang/IndexOutOfBoundsException", .initialized "java/lang/IndexOutOfBoundsException"] ++ wsX20 ++ (vx_atS RX2 112 "java/lang/IndexOutOfBoundsException" ["java/lang/RuntimeException", "java/lang/Exception"]).filter goodWord)
def wsX2_draft : List Cond := .code yX2_draft cX2_draft 3 (some .int) :: ([.fieldLink RX2 24 "BeadParley" "draftGrid" "LBeadParley$Grid;", .methodLink RX2 74 yX2_checkRange, .static yX2_checkRange, .initialized RX2, .code yX2_checkRange cX2_checkRange 3 none, .classLink RX2 150 "java/lang/IllegalArgumentException", .initialized "java/lang/IllegalArgumentException", .instanceMethod yX1_begin, .initialized RX1, .selects RX1 yX1_begin yX1_begin, .code yX1_begin cX1_begin 3 none, .fieldLink RX1 15 "BeadParley$Grid" "columns" "I", .fieldLink RX1 19 "BeadParley$Grid" "rows" "I", .fieldLink RX1 9 "BeadParley$Grid" "cells" "[I", .methodLink RX1 22 yJ7_fill_53178, .static yJ7_fill_53178, .initialized RJ7, .code yJ7_fill_53178 cJ7_fill_53178 4 none, .instanceMethod yX1_size, .selects RX1 yX1_size yX1_size, .code yX1_size cX1_size 1 (some .int)] ++ wsX20 ++ wsX10 ++ (vx_atS RX2 154 "java/lang/IllegalArgumentException" ["java/lang/RuntimeException", "java/lang/Exception"]).filter goodWord)
def wsX2_bead : List Cond := .code yX2_bead cX2_bead 5 (some .int) :: ([.classLink RX2 108 "java/lang/IndexOutOfBoundsException", .initialized "java/lang/IndexOutOfBoundsException", .fieldLink RX2 24 "BeadParley" "draftGrid" "LBeadParley$Grid;", .instanceMethod yX1_hasCell, .initialized RX1, .selects RX1 yX1_hasCell yX1_hasCell, .code yX1_hasCell cX1_hasCell 3 (some .boolean), .fieldLink RX1 15 "BeadParley$Grid" "columns" "I", .fieldLink RX1 19 "BeadParley$Grid" "rows" "I", .methodLink RX2 71 yX2_checkColour, .static yX2_checkColour, .initialized RX2, .code yX2_checkColour cX2_checkColour 1 none, .instanceMethod yX1_colourAt, .selects RX1 yX1_colourAt yX1_colourAt, .code yX1_colourAt cX1_colourAt 3 (some .int), .fieldLink RX1 9 "BeadParley$Grid" "cells" "[I", .instanceMethod yX1_paint, .selects RX1 yX1_paint yX1_paint, .code yX1_paint cX1_paint 4 none] ++ wsX20 ++ wsX10 ++ (vx_atS RX2 112 "java/lang/IndexOutOfBoundsException" ["java/lang/RuntimeException", "java/lang/Exception"]).filter goodWord)
def wsX2_pattern : List Cond := .code yX2_pattern cX2_pattern 3 (some .int) :: ([.classLink RX2 79 "java/lang/IllegalStateException", .initialized "java/lang/IllegalStateException", .fieldLink RX2 120 "BeadParley" "patternCount" "I", .fieldLink RX2 28 "BeadParley" "patternGrids" "[LBeadParley$Grid;", .fieldLink RX2 24 "BeadParley" "draftGrid" "LBeadParley$Grid;", .fieldLink RX2 32 "BeadParley" "patternAuthors" "[I", .methodLink RX2 67 yX2_checkPerson, .static yX2_checkPerson, .initialized RX2, .code yX2_checkPerson cX2_checkPerson 1 none, .classLink RX2 108 "java/lang/IndexOutOfBoundsException", .initialized "java/lang/IndexOutOfBoundsException", .instanceMethod yX1_copyFrom, .initialized RX1, .selects RX1 yX1_copyFrom yX1_copyFrom, .code yX1_copyFrom cX1_copyFrom 2 none, .fieldLink RX1 15 "BeadParley$Grid" "columns" "I", .fieldLink RX1 19 "BeadParley$Grid" "rows" "I", .fieldLink RX1 9 "BeadParley$Grid" "cells" "[I", .methodLink RX1 28 arraycopyName, .native arraycopyName, .static arraycopyName, .initialized "java/lang/System"] ++ wsX20 ++ wsX10 ++ (vx_atS RX2 83 "java/lang/IllegalStateException" ["java/lang/RuntimeException", "java/lang/Exception"]).filter goodWord ++ (vx_atS RX2 112 "java/lang/IndexOutOfBoundsException" ["java/lang/RuntimeException", "java/lang/Exception"]).filter goodWord)
def wsX2_patterns : List Cond := .code yX2_patterns cX2_patterns 1 (some .int) :: ([.fieldLink RX2 120 "BeadParley" "patternCount" "I"] ++ wsX20)
def wsX2_checkPattern : List Cond := .code yX2_checkPattern cX2_checkPattern 2 none :: ([.classLink RX2 108 "java/lang/IndexOutOfBoundsException", .initialized "java/lang/IndexOutOfBoundsException", .fieldLink RX2 120 "BeadParley" "patternCount" "I"] ++ wsX20 ++ (vx_atS RX2 112 "java/lang/IndexOutOfBoundsException" ["java/lang/RuntimeException", "java/lang/Exception"]).filter goodWord)
def wsX2_symmetries : List Cond := .code yX2_symmetries cX2_symmetries 3 (some .int) :: ([.fieldLink RX2 28 "BeadParley" "patternGrids" "[LBeadParley$Grid;", .methodLink RX2 130 yX2_checkPattern, .instanceMethod yX2_checkPattern, .selects RX2 yX2_checkPattern yX2_checkPattern, .initialized RX2, .code yX2_checkPattern cX2_checkPattern 2 none, .classLink RX2 108 "java/lang/IndexOutOfBoundsException", .initialized "java/lang/IndexOutOfBoundsException", .fieldLink RX2 120 "BeadParley" "patternCount" "I", .instanceMethod yX1_hasImage, .initialized RX1, .selects RX1 yX1_hasImage yX1_hasImage, .code yX1_hasImage cX1_hasImage 6 (some .boolean), .fieldLink RX1 15 "BeadParley$Grid" "columns" "I", .fieldLink RX1 19 "BeadParley$Grid" "rows" "I", .methodLink RX1 38 yX1_colourInImage, .instanceMethod yX1_colourInImage, .selects RX1 yX1_colourInImage yX1_colourInImage, .code yX1_colourInImage cX1_colourInImage 6 (some .int), .methodLink RX1 42 yX1_colourAt, .instanceMethod yX1_colourAt, .selects RX1 yX1_colourAt yX1_colourAt, .code yX1_colourAt cX1_colourAt 3 (some .int), .fieldLink RX1 9 "BeadParley$Grid" "cells" "[I"] ++ wsX20 ++ wsX10 ++ (vx_atS RX2 112 "java/lang/IndexOutOfBoundsException" ["java/lang/RuntimeException", "java/lang/Exception"]).filter goodWord)
def wsX2_originOf : List Cond := .code yX2_originOf cX2_originOf 4 (some .int) :: ([.fieldLink RX2 28 "BeadParley" "patternGrids" "[LBeadParley$Grid;", .instanceMethod yX1_hasImage, .initialized RX1, .selects RX1 yX1_hasImage yX1_hasImage, .code yX1_hasImage cX1_hasImage 6 (some .boolean), .fieldLink RX1 15 "BeadParley$Grid" "columns" "I", .fieldLink RX1 19 "BeadParley$Grid" "rows" "I", .methodLink RX1 38 yX1_colourInImage, .instanceMethod yX1_colourInImage, .selects RX1 yX1_colourInImage yX1_colourInImage, .code yX1_colourInImage cX1_colourInImage 6 (some .int), .methodLink RX1 42 yX1_colourAt, .instanceMethod yX1_colourAt, .selects RX1 yX1_colourAt yX1_colourAt, .code yX1_colourAt cX1_colourAt 3 (some .int), .fieldLink RX1 9 "BeadParley$Grid" "cells" "[I"] ++ wsX20 ++ wsX10)
def wsX2_origin_r1 : List Cond := [Cond.methodLink RX2 130 yX2_checkPattern, Cond.instanceMethod yX2_checkPattern, Cond.selects RX2 yX2_checkPattern yX2_checkPattern, Cond.initialized RX2, Cond.code yX2_checkPattern cX2_checkPattern 2 none, Cond.classLink RX2 108 "java/lang/IndexOutOfBoundsException", Cond.initialized "java/lang/IndexOutOfBoundsException", Cond.fieldLink RX2 120 "BeadParley" "patternCount" "I", Cond.methodLink RX2 137 yX2_originOf, Cond.instanceMethod yX2_originOf, Cond.selects RX2 yX2_originOf yX2_originOf, Cond.code yX2_originOf cX2_originOf 4 (some .int), Cond.fieldLink RX2 28 "BeadParley" "patternGrids" "[LBeadParley$Grid;", Cond.instanceMethod yX1_hasImage, Cond.initialized RX1, Cond.selects RX1 yX1_hasImage yX1_hasImage, Cond.code yX1_hasImage cX1_hasImage 6 (some .boolean), Cond.fieldLink RX1 15 "BeadParley$Grid" "columns" "I", Cond.fieldLink RX1 19 "BeadParley$Grid" "rows" "I", Cond.methodLink RX1 38 yX1_colourInImage, Cond.instanceMethod yX1_colourInImage, Cond.selects RX1 yX1_colourInImage yX1_colourInImage, Cond.code yX1_colourInImage cX1_colourInImage 6 (some .int), Cond.methodLink RX1 42 yX1_colourAt]
def wsX2_origin_r2 : List Cond := [Cond.instanceMethod yX1_colourAt, Cond.selects RX1 yX1_colourAt yX1_colourAt, Cond.code yX1_colourAt cX1_colourAt 3 (some .int), Cond.fieldLink RX1 9 "BeadParley$Grid" "cells" "[I"]
def wsX2_origin : List Cond := .code yX2_origin cX2_origin 2 (some .int) :: ((wsX2_origin_r1 ++ wsX2_origin_r2) ++ wsX20 ++ wsX10 ++ (vx_atS RX2 112 "java/lang/IndexOutOfBoundsException" ["java/lang/RuntimeException", "java/lang/Exception"]).filter goodWord)
def wsX2_needs : List Cond := .code yX2_needs cX2_needs 3 (some .int) :: ([.fieldLink RX2 28 "BeadParley" "patternGrids" "[LBeadParley$Grid;", .methodLink RX2 130 yX2_checkPattern, .instanceMethod yX2_checkPattern, .selects RX2 yX2_checkPattern yX2_checkPattern, .initialized RX2, .code yX2_checkPattern cX2_checkPattern 2 none, .classLink RX2 108 "java/lang/IndexOutOfBoundsException", .initialized "java/lang/IndexOutOfBoundsException", .fieldLink RX2 120 "BeadParley" "patternCount" "I", .methodLink RX2 71 yX2_checkColour, .static yX2_checkColour, .code yX2_checkColour cX2_checkColour 1 none, .instanceMethod yX1_cellsOf, .initialized RX1, .selects RX1 yX1_cellsOf yX1_cellsOf, .code yX1_cellsOf cX1_cellsOf 4 (some .int), .fieldLink RX1 9 "BeadParley$Grid" "cells" "[I", .methodLink RX1 34 yX1_size, .instanceMethod yX1_size, .selects RX1 yX1_size yX1_size, .code yX1_size cX1_size 1 (some .int), .fieldLink RX1 15 "BeadParley$Grid" "columns" "I", .fieldLink RX1 19 "BeadParley$Grid" "rows" "I"] ++ wsX20 ++ wsX10 ++ (vx_atS RX2 112 "java/lang/IndexOutOfBoundsException" ["java/lang/RuntimeException", "java/lang/Exception"]).filter goodWord)
def wsX2_lowestFreeBelt : List Cond := .code yX2_lowestFreeBelt cX2_lowestFreeBelt 2 (some .int) :: ([.methodLink RX2 88 yX2_isBelt, .instanceMethod yX2_isBelt, .selects RX2 yX2_isBelt yX2_isBelt, .initialized RX2, .code yX2_isBelt cX2_isBelt 2 (some .boolean), .fieldLink RX2 35 "BeadParley" "beltPatterns" "[I"] ++ wsX20)
def wsX2_weave_r1 : List Cond := [Cond.classLink RX2 79 "java/lang/IllegalStateException", Cond.initialized "java/lang/IllegalStateException", Cond.fieldLink RX2 28 "BeadParley" "patternGrids" "[LBeadParley$Grid;", Cond.fieldLink RX2 11 "BeadParley" "hands" "[[I", Cond.fieldLink RX2 35 "BeadParley" "beltPatterns" "[I", Cond.fieldLink RX2 38 "BeadParley" "beltOwners" "[I", Cond.fieldLink RX2 41 "BeadParley" "creditsOf" "[I", Cond.fieldLink RX2 32 "BeadParley" "patternAuthors" "[I", Cond.methodLink RX2 67 yX2_checkPerson, Cond.static yX2_checkPerson, Cond.initialized RX2, Cond.code yX2_checkPerson cX2_checkPerson 1 none, Cond.classLink RX2 108 "java/lang/IndexOutOfBoundsException", Cond.initialized "java/lang/IndexOutOfBoundsException", Cond.methodLink RX2 130 yX2_checkPattern, Cond.instanceMethod yX2_checkPattern, Cond.selects RX2 yX2_checkPattern yX2_checkPattern, Cond.code yX2_checkPattern cX2_checkPattern 2 none, Cond.fieldLink RX2 120 "BeadParley" "patternCount" "I", Cond.methodLink RX2 140 yX2_lowestFreeBelt, Cond.instanceMethod yX2_lowestFreeBelt, Cond.selects RX2 yX2_lowestFreeBelt yX2_lowestFreeBelt, Cond.code yX2_lowestFreeBelt cX2_lowestFreeBelt 2 (some .int), Cond.methodLink RX2 88 yX2_isBelt]
def wsX2_weave_r2 : List Cond := [Cond.instanceMethod yX2_isBelt, Cond.selects RX2 yX2_isBelt yX2_isBelt, Cond.code yX2_isBelt cX2_isBelt 2 (some .boolean), Cond.instanceMethod yX1_cellsOf, Cond.initialized RX1, Cond.selects RX1 yX1_cellsOf yX1_cellsOf, Cond.code yX1_cellsOf cX1_cellsOf 4 (some .int), Cond.fieldLink RX1 9 "BeadParley$Grid" "cells" "[I", Cond.methodLink RX1 34 yX1_size, Cond.instanceMethod yX1_size, Cond.selects RX1 yX1_size yX1_size, Cond.code yX1_size cX1_size 1 (some .int), Cond.fieldLink RX1 15 "BeadParley$Grid" "columns" "I", Cond.fieldLink RX1 19 "BeadParley$Grid" "rows" "I", Cond.methodLink RX2 137 yX2_originOf, Cond.instanceMethod yX2_originOf, Cond.selects RX2 yX2_originOf yX2_originOf, Cond.code yX2_originOf cX2_originOf 4 (some .int), Cond.instanceMethod yX1_hasImage, Cond.selects RX1 yX1_hasImage yX1_hasImage, Cond.code yX1_hasImage cX1_hasImage 6 (some .boolean), Cond.methodLink RX1 38 yX1_colourInImage, Cond.instanceMethod yX1_colourInImage, Cond.selects RX1 yX1_colourInImage yX1_colourInImage]
def wsX2_weave_r3 : List Cond := [Cond.code yX1_colourInImage cX1_colourInImage 6 (some .int), Cond.methodLink RX1 42 yX1_colourAt, Cond.instanceMethod yX1_colourAt, Cond.selects RX1 yX1_colourAt yX1_colourAt, Cond.code yX1_colourAt cX1_colourAt 3 (some .int)]
def wsX2_weave : List Cond := .code yX2_weave cX2_weave 6 (some .int) :: ((wsX2_weave_r1 ++ (wsX2_weave_r2 ++ wsX2_weave_r3)) ++ wsX20 ++ wsX10 ++ (vx_atS RX2 83 "java/lang/IllegalStateException" ["java/lang/RuntimeException", "java/lang/Exception"]).filter goodWord ++ (vx_atS RX2 112 "java/lang/IndexOutOfBoundsException" ["java/lang/RuntimeException", "java/lang/Exception"]).filter goodWord)
def wsX2_checkBelt : List Cond := .code yX2_checkBelt cX2_checkBelt 2 none :: ([.classLink RX2 108 "java/lang/IndexOutOfBoundsException", .initialized "java/lang/IndexOutOfBoundsException", .methodLink RX2 88 yX2_isBelt, .instanceMethod yX2_isBelt, .selects RX2 yX2_isBelt yX2_isBelt, .initialized RX2, .code yX2_isBelt cX2_isBelt 2 (some .boolean), .fieldLink RX2 35 "BeadParley" "beltPatterns" "[I"] ++ wsX20 ++ (vx_atS RX2 112 "java/lang/IndexOutOfBoundsException" ["java/lang/RuntimeException", "java/lang/Exception"]).filter goodWord)
def wsX2_apart_r1 : List Cond := [Cond.classLink RX2 79 "java/lang/IllegalStateException", Cond.initialized "java/lang/IllegalStateException", Cond.fieldLink RX2 28 "BeadParley" "patternGrids" "[LBeadParley$Grid;", Cond.fieldLink RX2 35 "BeadParley" "beltPatterns" "[I", Cond.fieldLink RX2 11 "BeadParley" "hands" "[[I", Cond.fieldLink RX2 38 "BeadParley" "beltOwners" "[I", Cond.constant RX2 78 (100000), Cond.methodLink RX2 147 yX2_checkBelt, Cond.instanceMethod yX2_checkBelt, Cond.selects RX2 yX2_checkBelt yX2_checkBelt, Cond.initialized RX2, Cond.code yX2_checkBelt cX2_checkBelt 2 none, Cond.classLink RX2 108 "java/lang/IndexOutOfBoundsException", Cond.initialized "java/lang/IndexOutOfBoundsException", Cond.methodLink RX2 88 yX2_isBelt, Cond.instanceMethod yX2_isBelt, Cond.selects RX2 yX2_isBelt yX2_isBelt, Cond.code yX2_isBelt cX2_isBelt 2 (some .boolean), Cond.instanceMethod yX1_cellsOf, Cond.initialized RX1, Cond.selects RX1 yX1_cellsOf yX1_cellsOf, Cond.code yX1_cellsOf cX1_cellsOf 4 (some .int), Cond.fieldLink RX1 9 "BeadParley$Grid" "cells" "[I", Cond.methodLink RX1 34 yX1_size]
def wsX2_apart_r2 : List Cond := [Cond.instanceMethod yX1_size, Cond.selects RX1 yX1_size yX1_size, Cond.code yX1_size cX1_size 1 (some .int), Cond.fieldLink RX1 15 "BeadParley$Grid" "columns" "I", Cond.fieldLink RX1 19 "BeadParley$Grid" "rows" "I"]
def wsX2_apart : List Cond := .code yX2_apart cX2_apart 5 (some .int) :: ((wsX2_apart_r1 ++ wsX2_apart_r2) ++ wsX20 ++ wsX10 ++ (vx_atS RX2 83 "java/lang/IllegalStateException" ["java/lang/RuntimeException", "java/lang/Exception"]).filter goodWord ++ (vx_atS RX2 112 "java/lang/IndexOutOfBoundsException" ["java/lang/RuntimeException", "java/lang/Exception"]).filter goodWord)
def wsX2_give : List Cond := .code yX2_give cX2_give 4 (some .int) :: ([.fieldLink RX2 38 "BeadParley" "beltOwners" "[I", .methodLink RX2 147 yX2_checkBelt, .instanceMethod yX2_checkBelt, .selects RX2 yX2_checkBelt yX2_checkBelt, .initialized RX2, .code yX2_checkBelt cX2_checkBelt 2 none, .classLink RX2 108 "java/lang/IndexOutOfBoundsException", .initialized "java/lang/IndexOutOfBoundsException", .methodLink RX2 88 yX2_isBelt, .instanceMethod yX2_isBelt, .selects RX2 yX2_isBelt yX2_isBelt, .code yX2_isBelt cX2_isBelt 2 (some .boolean), .fieldLink RX2 35 "BeadParley" "beltPatterns" "[I", .methodLink RX2 67 yX2_checkPerson, .static yX2_checkPerson, .code yX2_checkPerson cX2_checkPerson 1 none] ++ wsX20 ++ (vx_atS RX2 112 "java/lang/IndexOutOfBoundsException" ["java/lang/RuntimeException", "java/lang/Exception"]).filter goodWord)
def wsX2_owner : List Cond := .code yX2_owner cX2_owner 2 (some .int) :: ([.fieldLink RX2 38 "BeadParley" "beltOwners" "[I", .methodLink RX2 147 yX2_checkBelt, .instanceMethod yX2_checkBelt, .selects RX2 yX2_checkBelt yX2_checkBelt, .initialized RX2, .code yX2_checkBelt cX2_checkBelt 2 none, .classLink RX2 108 "java/lang/IndexOutOfBoundsException", .initialized "java/lang/IndexOutOfBoundsException", .methodLink RX2 88 yX2_isBelt, .instanceMethod yX2_isBelt, .selects RX2 yX2_isBelt yX2_isBelt, .code yX2_isBelt cX2_isBelt 2 (some .boolean), .fieldLink RX2 35 "BeadParley" "beltPatterns" "[I"] ++ wsX20 ++ (vx_atS RX2 112 "java/lang/IndexOutOfBoundsException" ["java/lang/RuntimeException", "java/lang/Exception"]).filter goodWord)
def wsX2_credits : List Cond := .code yX2_credits cX2_credits 2 (some .int) :: ([.fieldLink RX2 41 "BeadParley" "creditsOf" "[I", .methodLink RX2 67 yX2_checkPerson, .static yX2_checkPerson, .initialized RX2, .code yX2_checkPerson cX2_checkPerson 1 none, .classLink RX2 108 "java/lang/IndexOutOfBoundsException", .initialized "java/lang/IndexOutOfBoundsException"] ++ wsX20 ++ (vx_atS RX2 112 "java/lang/IndexOutOfBoundsException" ["java/lang/RuntimeException", "java/lang/Exception"]).filter goodWord)
def wsX2_wish : List Cond := .code yX2_wish cX2_wish 5 (some .boolean) :: ([.classLink RX2 150 "java/lang/IllegalArgumentException", .initialized "java/lang/IllegalArgumentException", .fieldLink RX2 47 "BeadParley" "barter" "LBeadParley$Barter;", .methodLink RX2 67 yX2_checkPerson, .static yX2_checkPerson, .initialized RX2, .code yX2_checkPerson cX2_checkPerson 1 none, .classLink RX2 108 "java/lang/IndexOutOfBoundsException", .initialized "java/lang/IndexOutOfBoundsException", .methodLink RX2 71 yX2_checkColour, .static yX2_checkColour, .code yX2_checkColour cX2_checkColour 1 none, .instanceMethod yX0_hasWish, .initialized RX0, .selects RX0 yX0_hasWish yX0_hasWish, .code yX0_hasWish cX0_hasWish 2 (some .boolean), .fieldLink RX0 9 "BeadParley$Barter" "gives" "[I", .instanceMethod yX0_setWish, .selects RX0 yX0_setWish yX0_setWish, .code yX0_setWish cX0_setWish 4 none, .fieldLink RX0 15 "BeadParley$Barter" "wants" "[I"] ++ wsX20 ++ wsX00 ++ (vx_atS RX2 154 "java/lang/IllegalArgumentException" ["java/lang/RuntimeException", "java/lang/Exception"]).filter goodWord ++ (vx_atS RX2 112 "java/lang/IndexOutOfBoundsException" ["java/lang/RuntimeException", "java/lang/Exception"]).filter goodWord)
def wsX2_unwish : List Cond := .code yX2_unwish cX2_unwish 3 (some .boolean) :: ([.fieldLink RX2 47 "BeadParley" "barter" "LBeadParley$Barter;", .methodLink RX2 67 yX2_checkPerson, .static yX2_checkPerson, .initialized RX2, .code yX2_checkPerson cX2_checkPerson 1 none, .classLink RX2 108 "java/lang/IndexOutOfBoundsException", .initialized "java/lang/IndexOutOfBoundsException", .instanceMethod yX0_hasWish, .initialized RX0, .selects RX0 yX0_hasWish yX0_hasWish, .code yX0_hasWish cX0_hasWish 2 (some .boolean), .fieldLink RX0 9 "BeadParley$Barter" "gives" "[I", .instanceMethod yX0_setWish, .selects RX0 yX0_setWish yX0_setWish, .code yX0_setWish cX0_setWish 4 none, .fieldLink RX0 15 "BeadParley$Barter" "wants" "[I"] ++ wsX20 ++ wsX00 ++ (vx_atS RX2 112 "java/lang/IndexOutOfBoundsException" ["java/lang/RuntimeException", "java/lang/Exception"]).filter goodWord)
def wsX2_chain_r1 : List Cond := [Cond.fieldLink RX2 47 "BeadParley" "barter" "LBeadParley$Barter;", Cond.fieldLink RX2 11 "BeadParley" "hands" "[[I", Cond.instanceMethod yX0_findBest, Cond.initialized RX0, Cond.selects RX0 yX0_findBest yX0_findBest, Cond.code yX0_findBest cX0_findBest 3 none, Cond.fieldLink RX0 42 "BeadParley$Barter" "bestLength" "I", Cond.fieldLink RX0 18 "BeadParley$Barter" "ready" "[Z", Cond.fieldLink RX0 22 "BeadParley$Barter" "row" "[I", Cond.methodLink RX0 38 yX0_markReady, Cond.instanceMethod yX0_markReady, Cond.selects RX0 yX0_markReady yX0_markReady, Cond.code yX0_markReady cX0_markReady 3 none, Cond.fieldLink RX0 9 "BeadParley$Barter" "gives" "[I", Cond.methodLink RX0 34 yX0_hasWish, Cond.instanceMethod yX0_hasWish, Cond.selects RX0 yX0_hasWish yX0_hasWish, Cond.code yX0_hasWish cX0_hasWish 2 (some .boolean), Cond.methodLink RX0 46 yX0_extend, Cond.static yX0_extend, Cond.code yX0_extend cX0_extend 5 none, Cond.fieldLink RX0 25 "BeadParley$Barter" "best" "[I", Cond.methodLink RX0 54 arraycopyName, Cond.native arraycopyName]
def wsX2_chain_r2 : List Cond := [Cond.static arraycopyName, Cond.initialized "java/lang/System", Cond.methodLink RX0 50 yX0_getsFrom, Cond.instanceMethod yX0_getsFrom, Cond.selects RX0 yX0_getsFrom yX0_getsFrom, Cond.code yX0_getsFrom cX0_getsFrom 3 (some .boolean), Cond.fieldLink RX0 15 "BeadParley$Barter" "wants" "[I", Cond.methodLink RX0 60 yX0_isInRow, Cond.instanceMethod yX0_isInRow, Cond.selects RX0 yX0_isInRow yX0_isInRow, Cond.code yX0_isInRow cX0_isInRow 4 (some .boolean)]
def wsX2_chain : List Cond := .code yX2_chain cX2_chain 1 (some .int) :: ((wsX2_chain_r1 ++ wsX2_chain_r2) ++ wsX20 ++ wsX00)
def wsX2_chainByOrders_r1 : List Cond := [Cond.fieldLink RX2 47 "BeadParley" "barter" "LBeadParley$Barter;", Cond.fieldLink RX2 11 "BeadParley" "hands" "[[I", Cond.instanceMethod yX0_longestByOrders, Cond.initialized RX0, Cond.selects RX0 yX0_longestByOrders yX0_longestByOrders, Cond.code yX0_longestByOrders cX0_longestByOrders 6 (some .int), Cond.fieldLink RX0 18 "BeadParley$Barter" "ready" "[Z", Cond.fieldLink RX0 22 "BeadParley$Barter" "row" "[I", Cond.methodLink RX0 67 Lib.Math.max.name, Cond.static Lib.Math.max.name, Cond.initialized "java/lang/Math", Cond.code Lib.Math.max.name Lib.Math.max.code 2 (some .int), Cond.methodLink RX0 38 yX0_markReady, Cond.instanceMethod yX0_markReady, Cond.selects RX0 yX0_markReady yX0_markReady, Cond.code yX0_markReady cX0_markReady 3 none, Cond.fieldLink RX0 9 "BeadParley$Barter" "gives" "[I", Cond.methodLink RX0 34 yX0_hasWish, Cond.instanceMethod yX0_hasWish, Cond.selects RX0 yX0_hasWish yX0_hasWish, Cond.code yX0_hasWish cX0_hasWish 2 (some .boolean), Cond.methodLink RX0 63 yX0_longestAtStartOfRow, Cond.instanceMethod yX0_longestAtStartOfRow, Cond.selects RX0 yX0_longestAtStartOfRow yX0_longestAtStartOfRow]
def wsX2_chainByOrders_r2 : List Cond := [Cond.code yX0_longestAtStartOfRow cX0_longestAtStartOfRow 4 (some .int), Cond.methodLink RX0 50 yX0_getsFrom, Cond.instanceMethod yX0_getsFrom, Cond.selects RX0 yX0_getsFrom yX0_getsFrom, Cond.code yX0_getsFrom cX0_getsFrom 3 (some .boolean), Cond.fieldLink RX0 15 "BeadParley$Barter" "wants" "[I", Cond.methodLink RX0 73 yX0_nextOrder, Cond.instanceMethod yX0_nextOrder, Cond.selects RX0 yX0_nextOrder yX0_nextOrder, Cond.code yX0_nextOrder cX0_nextOrder 6 (some .boolean), Cond.methodLink RX0 76 yX0_swap, Cond.instanceMethod yX0_swap, Cond.selects RX0 yX0_swap yX0_swap, Cond.code yX0_swap cX0_swap 4 none]
def wsX2_chainByOrders : List Cond := .code yX2_chainByOrders cX2_chainByOrders 1 (some .int) :: ((wsX2_chainByOrders_r1 ++ wsX2_chainByOrders_r2) ++ wsX20 ++ wsX00)
def wsX2_chainAt_r1 : List Cond := [Cond.classLink RX2 108 "java/lang/IndexOutOfBoundsException", Cond.initialized "java/lang/IndexOutOfBoundsException", Cond.fieldLink RX2 47 "BeadParley" "barter" "LBeadParley$Barter;", Cond.fieldLink RX2 11 "BeadParley" "hands" "[[I", Cond.instanceMethod yX0_findBest, Cond.initialized RX0, Cond.selects RX0 yX0_findBest yX0_findBest, Cond.code yX0_findBest cX0_findBest 3 none, Cond.fieldLink RX0 42 "BeadParley$Barter" "bestLength" "I", Cond.fieldLink RX0 18 "BeadParley$Barter" "ready" "[Z", Cond.fieldLink RX0 22 "BeadParley$Barter" "row" "[I", Cond.methodLink RX0 38 yX0_markReady, Cond.instanceMethod yX0_markReady, Cond.selects RX0 yX0_markReady yX0_markReady, Cond.code yX0_markReady cX0_markReady 3 none, Cond.fieldLink RX0 9 "BeadParley$Barter" "gives" "[I", Cond.methodLink RX0 34 yX0_hasWish, Cond.instanceMethod yX0_hasWish, Cond.selects RX0 yX0_hasWish yX0_hasWish, Cond.code yX0_hasWish cX0_hasWish 2 (some .boolean), Cond.methodLink RX0 46 yX0_extend, Cond.static yX0_extend, Cond.code yX0_extend cX0_extend 5 none, Cond.fieldLink RX0 25 "BeadParley$Barter" "best" "[I"]
def wsX2_chainAt_r2 : List Cond := [Cond.methodLink RX0 54 arraycopyName, Cond.native arraycopyName, Cond.static arraycopyName, Cond.initialized "java/lang/System", Cond.methodLink RX0 50 yX0_getsFrom, Cond.instanceMethod yX0_getsFrom, Cond.selects RX0 yX0_getsFrom yX0_getsFrom, Cond.code yX0_getsFrom cX0_getsFrom 3 (some .boolean), Cond.fieldLink RX0 15 "BeadParley$Barter" "wants" "[I", Cond.methodLink RX0 60 yX0_isInRow, Cond.instanceMethod yX0_isInRow, Cond.selects RX0 yX0_isInRow yX0_isInRow, Cond.code yX0_isInRow cX0_isInRow 4 (some .boolean)]
def wsX2_chainAt : List Cond := .code yX2_chainAt cX2_chainAt 2 (some .int) :: ((wsX2_chainAt_r1 ++ wsX2_chainAt_r2) ++ wsX20 ++ wsX00 ++ (vx_atS RX2 112 "java/lang/IndexOutOfBoundsException" ["java/lang/RuntimeException", "java/lang/Exception"]).filter goodWord)
def wsX2_fair_r1 : List Cond := [Cond.fieldLink RX2 47 "BeadParley" "barter" "LBeadParley$Barter;", Cond.fieldLink RX2 11 "BeadParley" "hands" "[[I", Cond.instanceMethod yX0_findBest, Cond.initialized RX0, Cond.selects RX0 yX0_findBest yX0_findBest, Cond.code yX0_findBest cX0_findBest 3 none, Cond.fieldLink RX0 42 "BeadParley$Barter" "bestLength" "I", Cond.fieldLink RX0 18 "BeadParley$Barter" "ready" "[Z", Cond.fieldLink RX0 22 "BeadParley$Barter" "row" "[I", Cond.methodLink RX0 38 yX0_markReady, Cond.instanceMethod yX0_markReady, Cond.selects RX0 yX0_markReady yX0_markReady, Cond.code yX0_markReady cX0_markReady 3 none, Cond.fieldLink RX0 9 "BeadParley$Barter" "gives" "[I", Cond.methodLink RX0 34 yX0_hasWish, Cond.instanceMethod yX0_hasWish, Cond.selects RX0 yX0_hasWish yX0_hasWish, Cond.code yX0_hasWish cX0_hasWish 2 (some .boolean), Cond.methodLink RX0 46 yX0_extend, Cond.static yX0_extend, Cond.code yX0_extend cX0_extend 5 none, Cond.fieldLink RX0 25 "BeadParley$Barter" "best" "[I", Cond.methodLink RX0 54 arraycopyName, Cond.native arraycopyName]
def wsX2_fair_r2 : List Cond := [Cond.static arraycopyName, Cond.initialized "java/lang/System", Cond.methodLink RX0 50 yX0_getsFrom, Cond.instanceMethod yX0_getsFrom, Cond.selects RX0 yX0_getsFrom yX0_getsFrom, Cond.code yX0_getsFrom cX0_getsFrom 3 (some .boolean), Cond.fieldLink RX0 15 "BeadParley$Barter" "wants" "[I", Cond.methodLink RX0 60 yX0_isInRow, Cond.instanceMethod yX0_isInRow, Cond.selects RX0 yX0_isInRow yX0_isInRow, Cond.code yX0_isInRow cX0_isInRow 4 (some .boolean), Cond.instanceMethod yX0_exchange, Cond.selects RX0 yX0_exchange yX0_exchange, Cond.code yX0_exchange cX0_exchange 5 none]
def wsX2_fair : List Cond := .code yX2_fair cX2_fair 1 (some .int) :: ((wsX2_fair_r1 ++ wsX2_fair_r2) ++ wsX20 ++ wsX00)
def wsX2_sign : List Cond := .code yX2_sign cX2_sign 3 (some .int) :: ([.classLink RX2 79 "java/lang/IllegalStateException", .initialized "java/lang/IllegalStateException", .fieldLink RX2 24 "BeadParley" "draftGrid" "LBeadParley$Grid;", .fieldLink RX2 188 "BeadParley" "signCount" "I", .fieldLink RX2 51 "BeadParley" "signGrids" "[LBeadParley$Grid;", .fieldLink RX2 54 "BeadParley" "signWorths" "[I", .methodLink RX2 74 yX2_checkRange, .static yX2_checkRange, .initialized RX2, .code yX2_checkRange cX2_checkRange 3 none, .classLink RX2 150 "java/lang/IllegalArgumentException", .initialized "java/lang/IllegalArgumentException", .instanceMethod yX1_copyFrom, .initialized RX1, .selects RX1 yX1_copyFrom yX1_copyFrom, .code yX1_copyFrom cX1_copyFrom 2 none, .fieldLink RX1 15 "BeadParley$Grid" "columns" "I", .fieldLink RX1 19 "BeadParley$Grid" "rows" "I", .fieldLink RX1 9 "BeadParley$Grid" "cells" "[I", .methodLink RX1 28 arraycopyName, .native arraycopyName, .static arraycopyName, .initialized "java/lang/System"] ++ wsX20 ++ wsX10 ++ (vx_atS RX2 83 "java/lang/IllegalStateException" ["java/lang/RuntimeException", "java/lang/Exception"]).filter goodWord ++ (vx_atS RX2 154 "java/lang/IllegalArgumentException" ["java/lang/RuntimeException", "java/lang/Exception"]).filter goodWord)
def wsX2_stands_r1 : List Cond := [Cond.classLink RX2 108 "java/lang/IndexOutOfBoundsException", Cond.initialized "java/lang/IndexOutOfBoundsException", Cond.fieldLink RX2 188 "BeadParley" "signCount" "I", Cond.fieldLink RX2 28 "BeadParley" "patternGrids" "[LBeadParley$Grid;", Cond.fieldLink RX2 51 "BeadParley" "signGrids" "[LBeadParley$Grid;", Cond.methodLink RX2 130 yX2_checkPattern, Cond.instanceMethod yX2_checkPattern, Cond.selects RX2 yX2_checkPattern yX2_checkPattern, Cond.initialized RX2, Cond.code yX2_checkPattern cX2_checkPattern 2 none, Cond.fieldLink RX2 120 "BeadParley" "patternCount" "I", Cond.instanceMethod yX1_placesOf, Cond.initialized RX1, Cond.selects RX1 yX1_placesOf yX1_placesOf, Cond.code yX1_placesOf cX1_placesOf 5 (some .int), Cond.fieldLink RX1 19 "BeadParley$Grid" "rows" "I", Cond.fieldLink RX1 15 "BeadParley$Grid" "columns" "I", Cond.methodLink RX1 46 yX1_shows, Cond.instanceMethod yX1_shows, Cond.selects RX1 yX1_shows yX1_shows, Cond.code yX1_shows cX1_shows 6 (some .boolean), Cond.methodLink RX1 42 yX1_colourAt, Cond.instanceMethod yX1_colourAt, Cond.selects RX1 yX1_colourAt yX1_colourAt]
def wsX2_stands_r2 : List Cond := [Cond.code yX1_colourAt cX1_colourAt 3 (some .int), Cond.fieldLink RX1 9 "BeadParley$Grid" "cells" "[I"]
def wsX2_stands : List Cond := .code yX2_stands cX2_stands 3 (some .int) :: ((wsX2_stands_r1 ++ wsX2_stands_r2) ++ wsX20 ++ wsX10 ++ (vx_atS RX2 112 "java/lang/IndexOutOfBoundsException" ["java/lang/RuntimeException", "java/lang/Exception"]).filter goodWord)
def wsX2_storyOf : List Cond := .code yX2_storyOf cX2_storyOf 4 (some .int) :: ([.fieldLink RX2 188 "BeadParley" "signCount" "I", .fieldLink RX2 54 "BeadParley" "signWorths" "[I", .fieldLink RX2 28 "BeadParley" "patternGrids" "[LBeadParley$Grid;", .fieldLink RX2 51 "BeadParley" "signGrids" "[LBeadParley$Grid;", .instanceMethod yX1_placesOf, .initialized RX1, .selects RX1 yX1_placesOf yX1_placesOf, .code yX1_placesOf cX1_placesOf 5 (some .int), .fieldLink RX1 19 "BeadParley$Grid" "rows" "I", .fieldLink RX1 15 "BeadParley$Grid" "columns" "I", .methodLink RX1 46 yX1_shows, .instanceMethod yX1_shows, .selects RX1 yX1_shows yX1_shows, .code yX1_shows cX1_shows 6 (some .boolean), .methodLink RX1 42 yX1_colourAt, .instanceMethod yX1_colourAt, .selects RX1 yX1_colourAt yX1_colourAt, .code yX1_colourAt cX1_colourAt 3 (some .int), .fieldLink RX1 9 "BeadParley$Grid" "cells" "[I"] ++ wsX20 ++ wsX10)
def wsX2_story_r1 : List Cond := [Cond.methodLink RX2 130 yX2_checkPattern, Cond.instanceMethod yX2_checkPattern, Cond.selects RX2 yX2_checkPattern yX2_checkPattern, Cond.initialized RX2, Cond.code yX2_checkPattern cX2_checkPattern 2 none, Cond.classLink RX2 108 "java/lang/IndexOutOfBoundsException", Cond.initialized "java/lang/IndexOutOfBoundsException", Cond.fieldLink RX2 120 "BeadParley" "patternCount" "I", Cond.methodLink RX2 199 yX2_storyOf, Cond.instanceMethod yX2_storyOf, Cond.selects RX2 yX2_storyOf yX2_storyOf, Cond.code yX2_storyOf cX2_storyOf 4 (some .int), Cond.fieldLink RX2 188 "BeadParley" "signCount" "I", Cond.fieldLink RX2 54 "BeadParley" "signWorths" "[I", Cond.fieldLink RX2 28 "BeadParley" "patternGrids" "[LBeadParley$Grid;", Cond.fieldLink RX2 51 "BeadParley" "signGrids" "[LBeadParley$Grid;", Cond.instanceMethod yX1_placesOf, Cond.initialized RX1, Cond.selects RX1 yX1_placesOf yX1_placesOf, Cond.code yX1_placesOf cX1_placesOf 5 (some .int), Cond.fieldLink RX1 19 "BeadParley$Grid" "rows" "I", Cond.fieldLink RX1 15 "BeadParley$Grid" "columns" "I", Cond.methodLink RX1 46 yX1_shows, Cond.instanceMethod yX1_shows]
def wsX2_story_r2 : List Cond := [Cond.selects RX1 yX1_shows yX1_shows, Cond.code yX1_shows cX1_shows 6 (some .boolean), Cond.methodLink RX1 42 yX1_colourAt, Cond.instanceMethod yX1_colourAt, Cond.selects RX1 yX1_colourAt yX1_colourAt, Cond.code yX1_colourAt cX1_colourAt 3 (some .int), Cond.fieldLink RX1 9 "BeadParley$Grid" "cells" "[I"]
def wsX2_story : List Cond := .code yX2_story cX2_story 2 (some .int) :: ((wsX2_story_r1 ++ wsX2_story_r2) ++ wsX20 ++ wsX10 ++ (vx_atS RX2 112 "java/lang/IndexOutOfBoundsException" ["java/lang/RuntimeException", "java/lang/Exception"]).filter goodWord)
def wsX2_hear_r1 : List Cond := [Cond.fieldLink RX2 57 "BeadParley" "heard" "[J", Cond.fieldLink RX2 35 "BeadParley" "beltPatterns" "[I", Cond.methodLink RX2 147 yX2_checkBelt, Cond.instanceMethod yX2_checkBelt, Cond.selects RX2 yX2_checkBelt yX2_checkBelt, Cond.initialized RX2, Cond.code yX2_checkBelt cX2_checkBelt 2 none, Cond.classLink RX2 108 "java/lang/IndexOutOfBoundsException", Cond.initialized "java/lang/IndexOutOfBoundsException", Cond.methodLink RX2 88 yX2_isBelt, Cond.instanceMethod yX2_isBelt, Cond.selects RX2 yX2_isBelt yX2_isBelt, Cond.code yX2_isBelt cX2_isBelt 2 (some .boolean), Cond.methodLink RX2 67 yX2_checkPerson, Cond.static yX2_checkPerson, Cond.code yX2_checkPerson cX2_checkPerson 1 none, Cond.methodLink RX2 199 yX2_storyOf, Cond.instanceMethod yX2_storyOf, Cond.selects RX2 yX2_storyOf yX2_storyOf, Cond.code yX2_storyOf cX2_storyOf 4 (some .int), Cond.fieldLink RX2 188 "BeadParley" "signCount" "I", Cond.fieldLink RX2 54 "BeadParley" "signWorths" "[I", Cond.fieldLink RX2 28 "BeadParley" "patternGrids" "[LBeadParley$Grid;", Cond.fieldLink RX2 51 "BeadParley" "signGrids" "[LBeadParley$Grid;"]
def wsX2_hear_r2 : List Cond := [Cond.instanceMethod yX1_placesOf, Cond.initialized RX1, Cond.selects RX1 yX1_placesOf yX1_placesOf, Cond.code yX1_placesOf cX1_placesOf 5 (some .int), Cond.fieldLink RX1 19 "BeadParley$Grid" "rows" "I", Cond.fieldLink RX1 15 "BeadParley$Grid" "columns" "I", Cond.methodLink RX1 46 yX1_shows, Cond.instanceMethod yX1_shows, Cond.selects RX1 yX1_shows yX1_shows, Cond.code yX1_shows cX1_shows 6 (some .boolean), Cond.methodLink RX1 42 yX1_colourAt, Cond.instanceMethod yX1_colourAt, Cond.selects RX1 yX1_colourAt yX1_colourAt, Cond.code yX1_colourAt cX1_colourAt 3 (some .int), Cond.fieldLink RX1 9 "BeadParley$Grid" "cells" "[I"]
def wsX2_hear : List Cond := .code yX2_hear cX2_hear 3 (some .long) :: ((wsX2_hear_r1 ++ wsX2_hear_r2) ++ wsX20 ++ wsX10 ++ (vx_atS RX2 112 "java/lang/IndexOutOfBoundsException" ["java/lang/RuntimeException", "java/lang/Exception"]).filter goodWord)
def wsX2_rankOf : List Cond := .code yX2_rankOf cX2_rankOf 4 (some .int) :: ([.fieldLink RX2 57 "BeadParley" "heard" "[J"] ++ wsX20)
def wsX2_ranked : List Cond := .code yX2_ranked cX2_ranked 3 (some .int) :: ([.classLink RX2 108 "java/lang/IndexOutOfBoundsException", .initialized "java/lang/IndexOutOfBoundsException", .methodLink RX2 204 yX2_rankOf, .instanceMethod yX2_rankOf, .selects RX2 yX2_rankOf yX2_rankOf, .initialized RX2, .code yX2_rankOf cX2_rankOf 4 (some .int), .fieldLink RX2 57 "BeadParley" "heard" "[J"] ++ wsX20 ++ (vx_atS RX2 112 "java/lang/IndexOutOfBoundsException" ["java/lang/RuntimeException", "java/lang/Exception"]).filter goodWord)
def wsX3_init_r1 : List Cond := [Cond.methodLink RX3 1 objectInit, Cond.instanceMethod objectInit, Cond.code objectInit ⟨#[0xb1]⟩ 1 none, Cond.arrayClass .int, Cond.fieldLink RX3 7 "BeadParleyModel" "hands" "[I", Cond.fieldLink RX3 13 "BeadParleyModel" "stall" "[I", Cond.fieldLink RX3 16 "BeadParleyModel" "brought" "[I", Cond.fieldLink RX3 19 "BeadParleyModel" "columns" "I", Cond.fieldLink RX3 23 "BeadParleyModel" "rows" "I", Cond.fieldLink RX3 26 "BeadParleyModel" "draft" "[I", Cond.fieldLink RX3 29 "BeadParleyModel" "patternColumns" "[I", Cond.fieldLink RX3 32 "BeadParleyModel" "patternRows" "[I", Cond.fieldLink RX3 35 "BeadParleyModel" "cells" "[I", Cond.fieldLink RX3 38 "BeadParleyModel" "author" "[I", Cond.fieldLink RX3 41 "BeadParleyModel" "origin" "[I", Cond.fieldLink RX3 44 "BeadParleyModel" "beltPattern" "[I", Cond.fieldLink RX3 47 "BeadParleyModel" "owner" "[I", Cond.fieldLink RX3 50 "BeadParleyModel" "credits" "[I", Cond.fieldLink RX3 53 "BeadParleyModel" "gives" "[I", Cond.fieldLink RX3 56 "BeadParleyModel" "wants" "[I", Cond.fieldLink RX3 59 "BeadParleyModel" "chain" "[I", Cond.fieldLink RX3 62 "BeadParleyModel" "tried" "[I", Cond.fieldLink RX3 65 "BeadParleyModel" "signColumns" "[I", Cond.fieldLink RX3 68 "BeadParleyModel" "signRows" "[I"]
def wsX3_init_r2 : List Cond := [Cond.fieldLink RX3 71 "BeadParleyModel" "signCells" "[I", Cond.fieldLink RX3 74 "BeadParleyModel" "worth" "[I", Cond.arrayClass .long, Cond.fieldLink RX3 77 "BeadParleyModel" "heard" "[J"]
def wsX3_init : List Cond := .code yX3_init cX3_init 2 none :: ((wsX3_init_r1 ++ wsX3_init_r2) ++ wsX30)
def wsX3_thrown : List Cond := .code yX3_thrown cX3_thrown 1 (some .int) :: ([.fieldLink RX3 81 "BeadParleyModel" "thrown" "I"] ++ wsX30)
def wsX3_isIn : List Cond := .code yX3_isIn cX3_isIn 3 (some .boolean) :: ([])
def wsX3_isPerson : List Cond := .code yX3_isPerson cX3_isPerson 1 (some .boolean) :: ([.methodLink RX3 84 yX3_isIn, .static yX3_isIn, .initialized RX3, .code yX3_isIn cX3_isIn 3 (some .boolean)])
def wsX3_isColour : List Cond := .code yX3_isColour cX3_isColour 1 (some .boolean) :: ([.methodLink RX3 84 yX3_isIn, .static yX3_isIn, .initialized RX3, .code yX3_isIn cX3_isIn 3 (some .boolean)])
def wsX3_isPattern : List Cond := .code yX3_isPattern cX3_isPattern 2 (some .boolean) :: ([.fieldLink RX3 88 "BeadParleyModel" "patterns" "I", .methodLink RX3 84 yX3_isIn, .static yX3_isIn, .initialized RX3, .code yX3_isIn cX3_isIn 3 (some .boolean)] ++ wsX30)
def wsX3_isBelt : List Cond := .code yX3_isBelt cX3_isBelt 2 (some .boolean) :: ([.fieldLink RX3 44 "BeadParleyModel" "beltPattern" "[I", .methodLink RX3 84 yX3_isIn, .static yX3_isIn, .initialized RX3, .code yX3_isIn cX3_isIn 3 (some .boolean)] ++ wsX30)
def wsX3_bring : List Cond := .code yX3_bring cX3_bring 5 (some .int) :: ([.fieldLink RX3 7 "BeadParleyModel" "hands" "[I", .constant RX3 98 (100000), .fieldLink RX3 81 "BeadParleyModel" "thrown" "I", .fieldLink RX3 16 "BeadParleyModel" "brought" "[I", .methodLink RX3 91 yX3_isPerson, .static yX3_isPerson, .initialized RX3, .code yX3_isPerson cX3_isPerson 1 (some .boolean), .methodLink RX3 84 yX3_isIn, .static yX3_isIn, .code yX3_isIn cX3_isIn 3 (some .boolean), .methodLink RX3 95 yX3_isColour, .static yX3_isColour, .code yX3_isColour cX3_isColour 1 (some .boolean)] ++ wsX30)
def wsX3_lay : List Cond := .code yX3_lay cX3_lay 5 (some .int) :: ([.fieldLink RX3 81 "BeadParleyModel" "thrown" "I", .fieldLink RX3 7 "BeadParleyModel" "hands" "[I", .constant RX3 98 (100000), .fieldLink RX3 13 "BeadParleyModel" "stall" "[I", .methodLink RX3 91 yX3_isPerson, .static yX3_isPerson, .initialized RX3, .code yX3_isPerson cX3_isPerson 1 (some .boolean), .methodLink RX3 84 yX3_isIn, .static yX3_isIn, .code yX3_isIn cX3_isIn 3 (some .boolean), .methodLink RX3 95 yX3_isColour, .static yX3_isColour, .code yX3_isColour cX3_isColour 1 (some .boolean)] ++ wsX30)
def wsX3_hand : List Cond := .code yX3_hand cX3_hand 3 (some .int) :: ([.fieldLink RX3 81 "BeadParleyModel" "thrown" "I", .fieldLink RX3 7 "BeadParleyModel" "hands" "[I", .methodLink RX3 91 yX3_isPerson, .static yX3_isPerson, .initialized RX3, .code yX3_isPerson cX3_isPerson 1 (some .boolean), .methodLink RX3 84 yX3_isIn, .static yX3_isIn, .code yX3_isIn cX3_isIn 3 (some .boolean), .methodLink RX3 95 yX3_isColour, .static yX3_isColour, .code yX3_isColour cX3_isColour 1 (some .boolean)] ++ wsX30)
def wsX3_at : List Cond := .code yX3_at cX3_at 4 (some .int) :: ([.fieldLink RX3 35 "BeadParleyModel" "cells" "[I"] ++ wsX30)
def wsX3_needsOf : List Cond := .code yX3_needsOf cX3_needsOf 5 (some .int) :: ([.fieldLink RX3 29 "BeadParleyModel" "patternColumns" "[I", .fieldLink RX3 32 "BeadParleyModel" "patternRows" "[I", .methodLink RX3 99 yX3_at, .instanceMethod yX3_at, .selects RX3 yX3_at yX3_at, .initialized RX3, .code yX3_at cX3_at 4 (some .int), .fieldLink RX3 35 "BeadParleyModel" "cells" "[I"] ++ wsX30)
def wsX3_beads_r1 : List Cond := [Cond.fieldLink RX3 81 "BeadParleyModel" "thrown" "I", Cond.fieldLink RX3 13 "BeadParleyModel" "stall" "[I", Cond.fieldLink RX3 7 "BeadParleyModel" "hands" "[I", Cond.fieldLink RX3 44 "BeadParleyModel" "beltPattern" "[I", Cond.methodLink RX3 95 yX3_isColour, Cond.static yX3_isColour, Cond.initialized RX3, Cond.code yX3_isColour cX3_isColour 1 (some .boolean), Cond.methodLink RX3 84 yX3_isIn, Cond.static yX3_isIn, Cond.code yX3_isIn cX3_isIn 3 (some .boolean), Cond.methodLink RX3 103 yX3_isBelt, Cond.instanceMethod yX3_isBelt, Cond.selects RX3 yX3_isBelt yX3_isBelt, Cond.code yX3_isBelt cX3_isBelt 2 (some .boolean), Cond.methodLink RX3 106 yX3_needsOf, Cond.instanceMethod yX3_needsOf, Cond.selects RX3 yX3_needsOf yX3_needsOf, Cond.code yX3_needsOf cX3_needsOf 5 (some .int), Cond.fieldLink RX3 29 "BeadParleyModel" "patternColumns" "[I", Cond.fieldLink RX3 32 "BeadParleyModel" "patternRows" "[I", Cond.methodLink RX3 99 yX3_at, Cond.instanceMethod yX3_at, Cond.selects RX3 yX3_at yX3_at]
def wsX3_beads_r2 : List Cond := [Cond.code yX3_at cX3_at 4 (some .int), Cond.fieldLink RX3 35 "BeadParleyModel" "cells" "[I"]
def wsX3_beads : List Cond := .code yX3_beads cX3_beads 4 (some .int) :: ((wsX3_beads_r1 ++ wsX3_beads_r2) ++ wsX30)
def wsX3_brought : List Cond := .code yX3_brought cX3_brought 2 (some .int) :: ([.fieldLink RX3 81 "BeadParleyModel" "thrown" "I", .fieldLink RX3 16 "BeadParleyModel" "brought" "[I", .methodLink RX3 95 yX3_isColour, .static yX3_isColour, .initialized RX3, .code yX3_isColour cX3_isColour 1 (some .boolean), .methodLink RX3 84 yX3_isIn, .static yX3_isIn, .code yX3_isIn cX3_isIn 3 (some .boolean)] ++ wsX30)
def wsX3_draft : List Cond := .code yX3_draft cX3_draft 4 (some .int) :: ([.fieldLink RX3 81 "BeadParleyModel" "thrown" "I", .fieldLink RX3 19 "BeadParleyModel" "columns" "I", .fieldLink RX3 23 "BeadParleyModel" "rows" "I", .fieldLink RX3 26 "BeadParleyModel" "draft" "[I", .methodLink RX3 84 yX3_isIn, .static yX3_isIn, .initialized RX3, .code yX3_isIn cX3_isIn 3 (some .boolean)] ++ wsX30)
def wsX3_bead : List Cond := .code yX3_bead cX3_bead 6 (some .int) :: ([.fieldLink RX3 19 "BeadParleyModel" "columns" "I", .fieldLink RX3 23 "BeadParleyModel" "rows" "I", .fieldLink RX3 81 "BeadParleyModel" "thrown" "I", .fieldLink RX3 26 "BeadParleyModel" "draft" "[I", .methodLink RX3 84 yX3_isIn, .static yX3_isIn, .initialized RX3, .code yX3_isIn cX3_isIn 3 (some .boolean), .methodLink RX3 95 yX3_isColour, .static yX3_isColour, .code yX3_isColour cX3_isColour 1 (some .boolean)] ++ wsX30)
def wsX3_image : List Cond := .code yX3_image cX3_image 10 (some .int) :: ([.fieldLink RX3 29 "BeadParleyModel" "patternColumns" "[I", .fieldLink RX3 32 "BeadParleyModel" "patternRows" "[I", .methodLink RX3 99 yX3_at, .instanceMethod yX3_at, .selects RX3 yX3_at yX3_at, .initialized RX3, .code yX3_at cX3_at 4 (some .int), .fieldLink RX3 35 "BeadParleyModel" "cells" "[I"] ++ wsX30)
def wsX3_isImage : List Cond := .code yX3_isImage cX3_isImage 9 (some .boolean) :: ([.fieldLink RX3 29 "BeadParleyModel" "patternColumns" "[I", .fieldLink RX3 32 "BeadParleyModel" "patternRows" "[I", .methodLink RX3 99 yX3_at, .instanceMethod yX3_at, .selects RX3 yX3_at yX3_at, .initialized RX3, .code yX3_at cX3_at 4 (some .int), .fieldLink RX3 35 "BeadParleyModel" "cells" "[I", .methodLink RX3 110 yX3_image, .instanceMethod yX3_image, .selects RX3 yX3_image yX3_image, .code yX3_image cX3_image 10 (some .int)] ++ wsX30)
def wsX3_pattern_r1 : List Cond := [Cond.fieldLink RX3 88 "BeadParleyModel" "patterns" "I", Cond.fieldLink RX3 81 "BeadParleyModel" "thrown" "I", Cond.fieldLink RX3 29 "BeadParleyModel" "patternColumns" "[I", Cond.fieldLink RX3 19 "BeadParleyModel" "columns" "I", Cond.fieldLink RX3 32 "BeadParleyModel" "patternRows" "[I", Cond.fieldLink RX3 23 "BeadParleyModel" "rows" "I", Cond.fieldLink RX3 38 "BeadParleyModel" "author" "[I", Cond.fieldLink RX3 35 "BeadParleyModel" "cells" "[I", Cond.fieldLink RX3 26 "BeadParleyModel" "draft" "[I", Cond.fieldLink RX3 41 "BeadParleyModel" "origin" "[I", Cond.methodLink RX3 91 yX3_isPerson, Cond.static yX3_isPerson, Cond.initialized RX3, Cond.code yX3_isPerson cX3_isPerson 1 (some .boolean), Cond.methodLink RX3 84 yX3_isIn, Cond.static yX3_isIn, Cond.code yX3_isIn cX3_isIn 3 (some .boolean), Cond.methodLink RX3 114 yX3_isImage, Cond.instanceMethod yX3_isImage, Cond.selects RX3 yX3_isImage yX3_isImage, Cond.code yX3_isImage cX3_isImage 9 (some .boolean), Cond.methodLink RX3 99 yX3_at, Cond.instanceMethod yX3_at, Cond.selects RX3 yX3_at yX3_at]
def wsX3_pattern_r2 : List Cond := [Cond.code yX3_at cX3_at 4 (some .int), Cond.methodLink RX3 110 yX3_image, Cond.instanceMethod yX3_image, Cond.selects RX3 yX3_image yX3_image, Cond.code yX3_image cX3_image 10 (some .int)]
def wsX3_pattern : List Cond := .code yX3_pattern cX3_pattern 5 (some .int) :: ((wsX3_pattern_r1 ++ wsX3_pattern_r2) ++ wsX30)
def wsX3_patterns : List Cond := .code yX3_patterns cX3_patterns 1 (some .int) :: ([.fieldLink RX3 81 "BeadParleyModel" "thrown" "I", .fieldLink RX3 88 "BeadParleyModel" "patterns" "I"] ++ wsX30)
def wsX3_asks : List Cond := .code yX3_asks cX3_asks 2 (some .boolean) :: ([.fieldLink RX3 81 "BeadParleyModel" "thrown" "I", .methodLink RX3 118 yX3_isPattern, .instanceMethod yX3_isPattern, .selects RX3 yX3_isPattern yX3_isPattern, .initialized RX3, .code yX3_isPattern cX3_isPattern 2 (some .boolean), .fieldLink RX3 88 "BeadParleyModel" "patterns" "I", .methodLink RX3 84 yX3_isIn, .static yX3_isIn, .code yX3_isIn cX3_isIn 3 (some .boolean)] ++ wsX30)
def wsX3_symmetries_r1 : List Cond := [Cond.methodLink RX3 121 yX3_asks, Cond.instanceMethod yX3_asks, Cond.selects RX3 yX3_asks yX3_asks, Cond.initialized RX3, Cond.code yX3_asks cX3_asks 2 (some .boolean), Cond.fieldLink RX3 81 "BeadParleyModel" "thrown" "I", Cond.methodLink RX3 118 yX3_isPattern, Cond.instanceMethod yX3_isPattern, Cond.selects RX3 yX3_isPattern yX3_isPattern, Cond.code yX3_isPattern cX3_isPattern 2 (some .boolean), Cond.fieldLink RX3 88 "BeadParleyModel" "patterns" "I", Cond.methodLink RX3 84 yX3_isIn, Cond.static yX3_isIn, Cond.code yX3_isIn cX3_isIn 3 (some .boolean), Cond.methodLink RX3 114 yX3_isImage, Cond.instanceMethod yX3_isImage, Cond.selects RX3 yX3_isImage yX3_isImage, Cond.code yX3_isImage cX3_isImage 9 (some .boolean), Cond.fieldLink RX3 29 "BeadParleyModel" "patternColumns" "[I", Cond.fieldLink RX3 32 "BeadParleyModel" "patternRows" "[I", Cond.methodLink RX3 99 yX3_at, Cond.instanceMethod yX3_at, Cond.selects RX3 yX3_at yX3_at, Cond.code yX3_at cX3_at 4 (some .int)]
def wsX3_symmetries_r2 : List Cond := [Cond.fieldLink RX3 35 "BeadParleyModel" "cells" "[I", Cond.methodLink RX3 110 yX3_image, Cond.instanceMethod yX3_image, Cond.selects RX3 yX3_image yX3_image, Cond.code yX3_image cX3_image 10 (some .int)]
def wsX3_symmetries : List Cond := .code yX3_symmetries cX3_symmetries 3 (some .int) :: ((wsX3_symmetries_r1 ++ wsX3_symmetries_r2) ++ wsX30)
def wsX3_origin : List Cond := .code yX3_origin cX3_origin 2 (some .int) :: ([.fieldLink RX3 41 "BeadParleyModel" "origin" "[I", .methodLink RX3 121 yX3_asks, .instanceMethod yX3_asks, .selects RX3 yX3_asks yX3_asks, .initialized RX3, .code yX3_asks cX3_asks 2 (some .boolean), .fieldLink RX3 81 "BeadParleyModel" "thrown" "I", .methodLink RX3 118 yX3_isPattern, .instanceMethod yX3_isPattern, .selects RX3 yX3_isPattern yX3_isPattern, .code yX3_isPattern cX3_isPattern 2 (some .boolean), .fieldLink RX3 88 "BeadParleyModel" "patterns" "I", .methodLink RX3 84 yX3_isIn, .static yX3_isIn, .code yX3_isIn cX3_isIn 3 (some .boolean)] ++ wsX30)
def wsX3_needs : List Cond := .code yX3_needs cX3_needs 3 (some .int) :: ([.fieldLink RX3 81 "BeadParleyModel" "thrown" "I", .methodLink RX3 118 yX3_isPattern, .instanceMethod yX3_isPattern, .selects RX3 yX3_isPattern yX3_isPattern, .initialized RX3, .code yX3_isPattern cX3_isPattern 2 (some .boolean), .fieldLink RX3 88 "BeadParleyModel" "patterns" "I", .methodLink RX3 84 yX3_isIn, .static yX3_isIn, .code yX3_isIn cX3_isIn 3 (some .boolean), .methodLink RX3 95 yX3_isColour, .static yX3_isColour, .code yX3_isColour cX3_isColour 1 (some .boolean), .methodLink RX3 106 yX3_needsOf, .instanceMethod yX3_needsOf, .selects RX3 yX3_needsOf yX3_needsOf, .code yX3_needsOf cX3_needsOf 5 (some .int), .fieldLink RX3 29 "BeadParleyModel" "patternColumns" "[I", .fieldLink RX3 32 "BeadParleyModel" "patternRows" "[I", .methodLink RX3 99 yX3_at, .instanceMethod yX3_at, .selects RX3 yX3_at yX3_at, .code yX3_at cX3_at 4 (some .int), .fieldLink RX3 35 "BeadParleyModel" "cells" "[I"] ++ wsX30)
def wsX3_freeBelt : List Cond := .code yX3_freeBelt cX3_freeBelt 2 (some .int) :: ([.fieldLink RX3 44 "BeadParleyModel" "beltPattern" "[I"] ++ wsX30)
def wsX3_weave_r1 : List Cond := [Cond.fieldLink RX3 81 "BeadParleyModel" "thrown" "I", Cond.fieldLink RX3 7 "BeadParleyModel" "hands" "[I", Cond.fieldLink RX3 44 "BeadParleyModel" "beltPattern" "[I", Cond.fieldLink RX3 47 "BeadParleyModel" "owner" "[I", Cond.fieldLink RX3 50 "BeadParleyModel" "credits" "[I", Cond.fieldLink RX3 38 "BeadParleyModel" "author" "[I", Cond.fieldLink RX3 41 "BeadParleyModel" "origin" "[I", Cond.methodLink RX3 91 yX3_isPerson, Cond.static yX3_isPerson, Cond.initialized RX3, Cond.code yX3_isPerson cX3_isPerson 1 (some .boolean), Cond.methodLink RX3 84 yX3_isIn, Cond.static yX3_isIn, Cond.code yX3_isIn cX3_isIn 3 (some .boolean), Cond.methodLink RX3 118 yX3_isPattern, Cond.instanceMethod yX3_isPattern, Cond.selects RX3 yX3_isPattern yX3_isPattern, Cond.code yX3_isPattern cX3_isPattern 2 (some .boolean), Cond.fieldLink RX3 88 "BeadParleyModel" "patterns" "I", Cond.methodLink RX3 124 yX3_freeBelt, Cond.instanceMethod yX3_freeBelt, Cond.selects RX3 yX3_freeBelt yX3_freeBelt, Cond.code yX3_freeBelt cX3_freeBelt 2 (some .int), Cond.methodLink RX3 106 yX3_needsOf]
def wsX3_weave_r2 : List Cond := [Cond.instanceMethod yX3_needsOf, Cond.selects RX3 yX3_needsOf yX3_needsOf, Cond.code yX3_needsOf cX3_needsOf 5 (some .int), Cond.fieldLink RX3 29 "BeadParleyModel" "patternColumns" "[I", Cond.fieldLink RX3 32 "BeadParleyModel" "patternRows" "[I", Cond.methodLink RX3 99 yX3_at, Cond.instanceMethod yX3_at, Cond.selects RX3 yX3_at yX3_at, Cond.code yX3_at cX3_at 4 (some .int), Cond.fieldLink RX3 35 "BeadParleyModel" "cells" "[I"]
def wsX3_weave : List Cond := .code yX3_weave cX3_weave 6 (some .int) :: ((wsX3_weave_r1 ++ wsX3_weave_r2) ++ wsX30)
def wsX3_apart : List Cond := .code yX3_apart cX3_apart 5 (some .int) :: ([.fieldLink RX3 81 "BeadParleyModel" "thrown" "I", .fieldLink RX3 44 "BeadParleyModel" "beltPattern" "[I", .fieldLink RX3 7 "BeadParleyModel" "hands" "[I", .fieldLink RX3 47 "BeadParleyModel" "owner" "[I", .constant RX3 98 (100000), .fieldLink RX3 29 "BeadParleyModel" "patternColumns" "[I", .fieldLink RX3 32 "BeadParleyModel" "patternRows" "[I", .methodLink RX3 103 yX3_isBelt, .instanceMethod yX3_isBelt, .selects RX3 yX3_isBelt yX3_isBelt, .initialized RX3, .code yX3_isBelt cX3_isBelt 2 (some .boolean), .methodLink RX3 84 yX3_isIn, .static yX3_isIn, .code yX3_isIn cX3_isIn 3 (some .boolean), .methodLink RX3 106 yX3_needsOf, .instanceMethod yX3_needsOf, .selects RX3 yX3_needsOf yX3_needsOf, .code yX3_needsOf cX3_needsOf 5 (some .int), .methodLink RX3 99 yX3_at, .instanceMethod yX3_at, .selects RX3 yX3_at yX3_at, .code yX3_at cX3_at 4 (some .int), .fieldLink RX3 35 "BeadParleyModel" "cells" "[I"] ++ wsX30)
def wsX3_give : List Cond := .code yX3_give cX3_give 4 (some .int) :: ([.fieldLink RX3 81 "BeadParleyModel" "thrown" "I", .fieldLink RX3 47 "BeadParleyModel" "owner" "[I", .methodLink RX3 103 yX3_isBelt, .instanceMethod yX3_isBelt, .selects RX3 yX3_isBelt yX3_isBelt, .initialized RX3, .code yX3_isBelt cX3_isBelt 2 (some .boolean), .fieldLink RX3 44 "BeadParleyModel" "beltPattern" "[I", .methodLink RX3 84 yX3_isIn, .static yX3_isIn, .code yX3_isIn cX3_isIn 3 (some .boolean), .methodLink RX3 91 yX3_isPerson, .static yX3_isPerson, .code yX3_isPerson cX3_isPerson 1 (some .boolean)] ++ wsX30)
def wsX3_owner : List Cond := .code yX3_owner cX3_owner 2 (some .int) :: ([.fieldLink RX3 81 "BeadParleyModel" "thrown" "I", .fieldLink RX3 47 "BeadParleyModel" "owner" "[I", .methodLink RX3 103 yX3_isBelt, .instanceMethod yX3_isBelt, .selects RX3 yX3_isBelt yX3_isBelt, .initialized RX3, .code yX3_isBelt cX3_isBelt 2 (some .boolean), .fieldLink RX3 44 "BeadParleyModel" "beltPattern" "[I", .methodLink RX3 84 yX3_isIn, .static yX3_isIn, .code yX3_isIn cX3_isIn 3 (some .boolean)] ++ wsX30)
def wsX3_credits : List Cond := .code yX3_credits cX3_credits 2 (some .int) :: ([.fieldLink RX3 81 "BeadParleyModel" "thrown" "I", .fieldLink RX3 50 "BeadParleyModel" "credits" "[I", .methodLink RX3 91 yX3_isPerson, .static yX3_isPerson, .initialized RX3, .code yX3_isPerson cX3_isPerson 1 (some .boolean), .methodLink RX3 84 yX3_isIn, .static yX3_isIn, .code yX3_isIn cX3_isIn 3 (some .boolean)] ++ wsX30)
def wsX3_wish : List Cond := .code yX3_wish cX3_wish 5 (some .boolean) :: ([.fieldLink RX3 81 "BeadParleyModel" "thrown" "I", .fieldLink RX3 53 "BeadParleyModel" "gives" "[I", .fieldLink RX3 56 "BeadParleyModel" "wants" "[I", .methodLink RX3 91 yX3_isPerson, .static yX3_isPerson, .initialized RX3, .code yX3_isPerson cX3_isPerson 1 (some .boolean), .methodLink RX3 84 yX3_isIn, .static yX3_isIn, .code yX3_isIn cX3_isIn 3 (some .boolean), .methodLink RX3 95 yX3_isColour, .static yX3_isColour, .code yX3_isColour cX3_isColour 1 (some .boolean)] ++ wsX30)
def wsX3_unwish : List Cond := .code yX3_unwish cX3_unwish 3 (some .boolean) :: ([.fieldLink RX3 81 "BeadParleyModel" "thrown" "I", .fieldLink RX3 53 "BeadParleyModel" "gives" "[I", .methodLink RX3 91 yX3_isPerson, .static yX3_isPerson, .initialized RX3, .code yX3_isPerson cX3_isPerson 1 (some .boolean), .methodLink RX3 84 yX3_isIn, .static yX3_isIn, .code yX3_isIn cX3_isIn 3 (some .boolean)] ++ wsX30)
def wsX3_canGive : List Cond := .code yX3_canGive cX3_canGive 2 (some .boolean) :: ([.fieldLink RX3 53 "BeadParleyModel" "gives" "[I", .fieldLink RX3 7 "BeadParleyModel" "hands" "[I"] ++ wsX30)
def wsX3_isRow : List Cond := .code yX3_isRow cX3_isRow 5 (some .boolean) :: ([.fieldLink RX3 62 "BeadParleyModel" "tried" "[I", .fieldLink RX3 56 "BeadParleyModel" "wants" "[I", .fieldLink RX3 53 "BeadParleyModel" "gives" "[I", .methodLink RX3 128 yX3_canGive, .instanceMethod yX3_canGive, .selects RX3 yX3_canGive yX3_canGive, .initialized RX3, .code yX3_canGive cX3_canGive 2 (some .boolean), .fieldLink RX3 7 "BeadParleyModel" "hands" "[I"] ++ wsX30)
def wsX3_finds : List Cond := .code yX3_finds cX3_finds 4 (some .int) :: ([.fieldLink RX3 62 "BeadParleyModel" "tried" "[I", .fieldLink RX3 56 "BeadParleyModel" "wants" "[I", .fieldLink RX3 53 "BeadParleyModel" "gives" "[I", .fieldLink RX3 59 "BeadParleyModel" "chain" "[I", .methodLink RX3 131 yX3_isRow, .instanceMethod yX3_isRow, .selects RX3 yX3_isRow yX3_isRow, .initialized RX3, .code yX3_isRow cX3_isRow 5 (some .boolean), .methodLink RX3 128 yX3_canGive, .instanceMethod yX3_canGive, .selects RX3 yX3_canGive yX3_canGive, .code yX3_canGive cX3_canGive 2 (some .boolean), .fieldLink RX3 7 "BeadParleyModel" "hands" "[I"] ++ wsX30)
def wsX3_chain : List Cond := .code yX3_chain cX3_chain 1 (some .int) :: ([.fieldLink RX3 81 "BeadParleyModel" "thrown" "I", .methodLink RX3 134 yX3_finds, .instanceMethod yX3_finds, .selects RX3 yX3_finds yX3_finds, .initialized RX3, .code yX3_finds cX3_finds 4 (some .int), .fieldLink RX3 62 "BeadParleyModel" "tried" "[I", .fieldLink RX3 56 "BeadParleyModel" "wants" "[I", .fieldLink RX3 53 "BeadParleyModel" "gives" "[I", .fieldLink RX3 59 "BeadParleyModel" "chain" "[I", .methodLink RX3 131 yX3_isRow, .instanceMethod yX3_isRow, .selects RX3 yX3_isRow yX3_isRow, .code yX3_isRow cX3_isRow 5 (some .boolean), .methodLink RX3 128 yX3_canGive, .instanceMethod yX3_canGive, .selects RX3 yX3_canGive yX3_canGive, .code yX3_canGive cX3_canGive 2 (some .boolean), .fieldLink RX3 7 "BeadParleyModel" "hands" "[I"] ++ wsX30)
def wsX3_chainByOrders : List Cond := .code yX3_chainByOrders cX3_chainByOrders 1 (some .int) :: ([.fieldLink RX3 81 "BeadParleyModel" "thrown" "I", .methodLink RX3 134 yX3_finds, .instanceMethod yX3_finds, .selects RX3 yX3_finds yX3_finds, .initialized RX3, .code yX3_finds cX3_finds 4 (some .int), .fieldLink RX3 62 "BeadParleyModel" "tried" "[I", .fieldLink RX3 56 "BeadParleyModel" "wants" "[I", .fieldLink RX3 53 "BeadParleyModel" "gives" "[I", .fieldLink RX3 59 "BeadParleyModel" "chain" "[I", .methodLink RX3 131 yX3_isRow, .instanceMethod yX3_isRow, .selects RX3 yX3_isRow yX3_isRow, .code yX3_isRow cX3_isRow 5 (some .boolean), .methodLink RX3 128 yX3_canGive, .instanceMethod yX3_canGive, .selects RX3 yX3_canGive yX3_canGive, .code yX3_canGive cX3_canGive 2 (some .boolean), .fieldLink RX3 7 "BeadParleyModel" "hands" "[I"] ++ wsX30)
def wsX3_chainAt : List Cond := .code yX3_chainAt cX3_chainAt 2 (some .int) :: ([.fieldLink RX3 81 "BeadParleyModel" "thrown" "I", .fieldLink RX3 59 "BeadParleyModel" "chain" "[I", .methodLink RX3 134 yX3_finds, .instanceMethod yX3_finds, .selects RX3 yX3_finds yX3_finds, .initialized RX3, .code yX3_finds cX3_finds 4 (some .int), .fieldLink RX3 62 "BeadParleyModel" "tried" "[I", .fieldLink RX3 56 "BeadParleyModel" "wants" "[I", .fieldLink RX3 53 "BeadParleyModel" "gives" "[I", .methodLink RX3 131 yX3_isRow, .instanceMethod yX3_isRow, .selects RX3 yX3_isRow yX3_isRow, .code yX3_isRow cX3_isRow 5 (some .boolean), .methodLink RX3 128 yX3_canGive, .instanceMethod yX3_canGive, .selects RX3 yX3_canGive yX3_canGive, .code yX3_canGive cX3_canGive 2 (some .boolean), .fieldLink RX3 7 "BeadParleyModel" "hands" "[I", .methodLink RX3 84 yX3_isIn, .static yX3_isIn, .code yX3_isIn cX3_isIn 3 (some .boolean)] ++ wsX30)
def wsX3_fair : List Cond := .code yX3_fair cX3_fair 4 (some .int) :: ([.fieldLink RX3 81 "BeadParleyModel" "thrown" "I", .fieldLink RX3 59 "BeadParleyModel" "chain" "[I", .fieldLink RX3 7 "BeadParleyModel" "hands" "[I", .fieldLink RX3 53 "BeadParleyModel" "gives" "[I", .fieldLink RX3 56 "BeadParleyModel" "wants" "[I", .methodLink RX3 134 yX3_finds, .instanceMethod yX3_finds, .selects RX3 yX3_finds yX3_finds, .initialized RX3, .code yX3_finds cX3_finds 4 (some .int), .fieldLink RX3 62 "BeadParleyModel" "tried" "[I", .methodLink RX3 131 yX3_isRow, .instanceMethod yX3_isRow, .selects RX3 yX3_isRow yX3_isRow, .code yX3_isRow cX3_isRow 5 (some .boolean), .methodLink RX3 128 yX3_canGive, .instanceMethod yX3_canGive, .selects RX3 yX3_canGive yX3_canGive, .code yX3_canGive cX3_canGive 2 (some .boolean)] ++ wsX30)
def wsX3_sign : List Cond := .code yX3_sign cX3_sign 3 (some .int) :: ([.fieldLink RX3 19 "BeadParleyModel" "columns" "I", .fieldLink RX3 23 "BeadParleyModel" "rows" "I", .fieldLink RX3 137 "BeadParleyModel" "signs" "I", .fieldLink RX3 81 "BeadParleyModel" "thrown" "I", .fieldLink RX3 65 "BeadParleyModel" "signColumns" "[I", .fieldLink RX3 68 "BeadParleyModel" "signRows" "[I", .fieldLink RX3 74 "BeadParleyModel" "worth" "[I", .fieldLink RX3 71 "BeadParleyModel" "signCells" "[I", .fieldLink RX3 26 "BeadParleyModel" "draft" "[I", .methodLink RX3 84 yX3_isIn, .static yX3_isIn, .initialized RX3, .code yX3_isIn cX3_isIn 3 (some .boolean)] ++ wsX30)
def wsX3_standsAt : List Cond := .code yX3_standsAt cX3_standsAt 8 (some .boolean) :: ([.fieldLink RX3 65 "BeadParleyModel" "signColumns" "[I", .fieldLink RX3 29 "BeadParleyModel" "patternColumns" "[I", .fieldLink RX3 68 "BeadParleyModel" "signRows" "[I", .fieldLink RX3 32 "BeadParleyModel" "patternRows" "[I", .fieldLink RX3 71 "BeadParleyModel" "signCells" "[I", .methodLink RX3 99 yX3_at, .instanceMethod yX3_at, .selects RX3 yX3_at yX3_at, .initialized RX3, .code yX3_at cX3_at 4 (some .int), .fieldLink RX3 35 "BeadParleyModel" "cells" "[I"] ++ wsX30)
def wsX3_standsIn : List Cond := .code yX3_standsIn cX3_standsIn 5 (some .int) :: ([.methodLink RX3 140 yX3_standsAt, .instanceMethod yX3_standsAt, .selects RX3 yX3_standsAt yX3_standsAt, .initialized RX3, .code yX3_standsAt cX3_standsAt 8 (some .boolean), .fieldLink RX3 65 "BeadParleyModel" "signColumns" "[I", .fieldLink RX3 29 "BeadParleyModel" "patternColumns" "[I", .fieldLink RX3 68 "BeadParleyModel" "signRows" "[I", .fieldLink RX3 32 "BeadParleyModel" "patternRows" "[I", .fieldLink RX3 71 "BeadParleyModel" "signCells" "[I", .methodLink RX3 99 yX3_at, .instanceMethod yX3_at, .selects RX3 yX3_at yX3_at, .code yX3_at cX3_at 4 (some .int), .fieldLink RX3 35 "BeadParleyModel" "cells" "[I"] ++ wsX30)
def wsX3_stands_r1 : List Cond := [Cond.fieldLink RX3 137 "BeadParleyModel" "signs" "I", Cond.fieldLink RX3 81 "BeadParleyModel" "thrown" "I", Cond.methodLink RX3 84 yX3_isIn, Cond.static yX3_isIn, Cond.initialized RX3, Cond.code yX3_isIn cX3_isIn 3 (some .boolean), Cond.methodLink RX3 118 yX3_isPattern, Cond.instanceMethod yX3_isPattern, Cond.selects RX3 yX3_isPattern yX3_isPattern, Cond.code yX3_isPattern cX3_isPattern 2 (some .boolean), Cond.fieldLink RX3 88 "BeadParleyModel" "patterns" "I", Cond.methodLink RX3 144 yX3_standsIn, Cond.instanceMethod yX3_standsIn, Cond.selects RX3 yX3_standsIn yX3_standsIn, Cond.code yX3_standsIn cX3_standsIn 5 (some .int), Cond.methodLink RX3 140 yX3_standsAt, Cond.instanceMethod yX3_standsAt, Cond.selects RX3 yX3_standsAt yX3_standsAt, Cond.code yX3_standsAt cX3_standsAt 8 (some .boolean), Cond.fieldLink RX3 65 "BeadParleyModel" "signColumns" "[I", Cond.fieldLink RX3 29 "BeadParleyModel" "patternColumns" "[I", Cond.fieldLink RX3 68 "BeadParleyModel" "signRows" "[I", Cond.fieldLink RX3 32 "BeadParleyModel" "patternRows" "[I", Cond.fieldLink RX3 71 "BeadParleyModel" "signCells" "[I"]
def wsX3_stands_r2 : List Cond := [Cond.methodLink RX3 99 yX3_at, Cond.instanceMethod yX3_at, Cond.selects RX3 yX3_at yX3_at, Cond.code yX3_at cX3_at 4 (some .int), Cond.fieldLink RX3 35 "BeadParleyModel" "cells" "[I"]
def wsX3_stands : List Cond := .code yX3_stands cX3_stands 3 (some .int) :: ((wsX3_stands_r1 ++ wsX3_stands_r2) ++ wsX30)
def wsX3_storyOf : List Cond := .code yX3_storyOf cX3_storyOf 4 (some .int) :: ([.fieldLink RX3 137 "BeadParleyModel" "signs" "I", .fieldLink RX3 74 "BeadParleyModel" "worth" "[I", .methodLink RX3 144 yX3_standsIn, .instanceMethod yX3_standsIn, .selects RX3 yX3_standsIn yX3_standsIn, .initialized RX3, .code yX3_standsIn cX3_standsIn 5 (some .int), .methodLink RX3 140 yX3_standsAt, .instanceMethod yX3_standsAt, .selects RX3 yX3_standsAt yX3_standsAt, .code yX3_standsAt cX3_standsAt 8 (some .boolean), .fieldLink RX3 65 "BeadParleyModel" "signColumns" "[I", .fieldLink RX3 29 "BeadParleyModel" "patternColumns" "[I", .fieldLink RX3 68 "BeadParleyModel" "signRows" "[I", .fieldLink RX3 32 "BeadParleyModel" "patternRows" "[I", .fieldLink RX3 71 "BeadParleyModel" "signCells" "[I", .methodLink RX3 99 yX3_at, .instanceMethod yX3_at, .selects RX3 yX3_at yX3_at, .code yX3_at cX3_at 4 (some .int), .fieldLink RX3 35 "BeadParleyModel" "cells" "[I"] ++ wsX30)
def wsX3_story_r1 : List Cond := [Cond.methodLink RX3 121 yX3_asks, Cond.instanceMethod yX3_asks, Cond.selects RX3 yX3_asks yX3_asks, Cond.initialized RX3, Cond.code yX3_asks cX3_asks 2 (some .boolean), Cond.fieldLink RX3 81 "BeadParleyModel" "thrown" "I", Cond.methodLink RX3 118 yX3_isPattern, Cond.instanceMethod yX3_isPattern, Cond.selects RX3 yX3_isPattern yX3_isPattern, Cond.code yX3_isPattern cX3_isPattern 2 (some .boolean), Cond.fieldLink RX3 88 "BeadParleyModel" "patterns" "I", Cond.methodLink RX3 84 yX3_isIn, Cond.static yX3_isIn, Cond.code yX3_isIn cX3_isIn 3 (some .boolean), Cond.methodLink RX3 147 yX3_storyOf, Cond.instanceMethod yX3_storyOf, Cond.selects RX3 yX3_storyOf yX3_storyOf, Cond.code yX3_storyOf cX3_storyOf 4 (some .int), Cond.fieldLink RX3 137 "BeadParleyModel" "signs" "I", Cond.fieldLink RX3 74 "BeadParleyModel" "worth" "[I", Cond.methodLink RX3 144 yX3_standsIn, Cond.instanceMethod yX3_standsIn, Cond.selects RX3 yX3_standsIn yX3_standsIn, Cond.code yX3_standsIn cX3_standsIn 5 (some .int)]
def wsX3_story_r2 : List Cond := [Cond.methodLink RX3 140 yX3_standsAt, Cond.instanceMethod yX3_standsAt, Cond.selects RX3 yX3_standsAt yX3_standsAt, Cond.code yX3_standsAt cX3_standsAt 8 (some .boolean), Cond.fieldLink RX3 65 "BeadParleyModel" "signColumns" "[I", Cond.fieldLink RX3 29 "BeadParleyModel" "patternColumns" "[I", Cond.fieldLink RX3 68 "BeadParleyModel" "signRows" "[I", Cond.fieldLink RX3 32 "BeadParleyModel" "patternRows" "[I", Cond.fieldLink RX3 71 "BeadParleyModel" "signCells" "[I", Cond.methodLink RX3 99 yX3_at, Cond.instanceMethod yX3_at, Cond.selects RX3 yX3_at yX3_at, Cond.code yX3_at cX3_at 4 (some .int), Cond.fieldLink RX3 35 "BeadParleyModel" "cells" "[I"]
def wsX3_story : List Cond := .code yX3_story cX3_story 2 (some .int) :: ((wsX3_story_r1 ++ wsX3_story_r2) ++ wsX30)
def wsX3_hear_r1 : List Cond := [Cond.fieldLink RX3 81 "BeadParleyModel" "thrown" "I", Cond.fieldLink RX3 77 "BeadParleyModel" "heard" "[J", Cond.fieldLink RX3 44 "BeadParleyModel" "beltPattern" "[I", Cond.methodLink RX3 103 yX3_isBelt, Cond.instanceMethod yX3_isBelt, Cond.selects RX3 yX3_isBelt yX3_isBelt, Cond.initialized RX3, Cond.code yX3_isBelt cX3_isBelt 2 (some .boolean), Cond.methodLink RX3 84 yX3_isIn, Cond.static yX3_isIn, Cond.code yX3_isIn cX3_isIn 3 (some .boolean), Cond.methodLink RX3 91 yX3_isPerson, Cond.static yX3_isPerson, Cond.code yX3_isPerson cX3_isPerson 1 (some .boolean), Cond.methodLink RX3 147 yX3_storyOf, Cond.instanceMethod yX3_storyOf, Cond.selects RX3 yX3_storyOf yX3_storyOf, Cond.code yX3_storyOf cX3_storyOf 4 (some .int), Cond.fieldLink RX3 137 "BeadParleyModel" "signs" "I", Cond.fieldLink RX3 74 "BeadParleyModel" "worth" "[I", Cond.methodLink RX3 144 yX3_standsIn, Cond.instanceMethod yX3_standsIn, Cond.selects RX3 yX3_standsIn yX3_standsIn, Cond.code yX3_standsIn cX3_standsIn 5 (some .int)]
def wsX3_hear_r2 : List Cond := [Cond.methodLink RX3 140 yX3_standsAt, Cond.instanceMethod yX3_standsAt, Cond.selects RX3 yX3_standsAt yX3_standsAt, Cond.code yX3_standsAt cX3_standsAt 8 (some .boolean), Cond.fieldLink RX3 65 "BeadParleyModel" "signColumns" "[I", Cond.fieldLink RX3 29 "BeadParleyModel" "patternColumns" "[I", Cond.fieldLink RX3 68 "BeadParleyModel" "signRows" "[I", Cond.fieldLink RX3 32 "BeadParleyModel" "patternRows" "[I", Cond.fieldLink RX3 71 "BeadParleyModel" "signCells" "[I", Cond.methodLink RX3 99 yX3_at, Cond.instanceMethod yX3_at, Cond.selects RX3 yX3_at yX3_at, Cond.code yX3_at cX3_at 4 (some .int), Cond.fieldLink RX3 35 "BeadParleyModel" "cells" "[I"]
def wsX3_hear : List Cond := .code yX3_hear cX3_hear 3 (some .long) :: ((wsX3_hear_r1 ++ wsX3_hear_r2) ++ wsX30)
def wsX3_ranked : List Cond := .code yX3_ranked cX3_ranked 6 (some .int) :: ([.fieldLink RX3 81 "BeadParleyModel" "thrown" "I", .fieldLink RX3 77 "BeadParleyModel" "heard" "[J", .methodLink RX3 84 yX3_isIn, .static yX3_isIn, .initialized RX3, .code yX3_isIn cX3_isIn 3 (some .boolean)] ++ wsX30)
def wsJ9_max_7cf53 : List Cond := .code yJ9_max_7cf53 cJ9_max_7cf53 2 (some .int) :: ([])
def wsL_bring_r1 : List Cond := [Cond.classLink RL 13 "java/lang/IndexOutOfBoundsException", Cond.classLink RL 15 "java/lang/IllegalArgumentException", Cond.classLink RL 17 "java/lang/IllegalStateException", Cond.methodLink RL 7 yX2_bring, Cond.instanceMethod yX2_bring, Cond.selects RX2 yX2_bring yX2_bring, Cond.initialized RX2, Cond.code yX2_bring cX2_bring 5 (some .int), Cond.classLink RX2 79 "java/lang/IllegalStateException", Cond.initialized "java/lang/IllegalStateException", Cond.fieldLink RX2 11 "BeadParley" "hands" "[[I", Cond.constant RX2 78 (100000), Cond.fieldLink RX2 18 "BeadParley" "broughtSoFar" "[I", Cond.methodLink RX2 67 yX2_checkPerson, Cond.static yX2_checkPerson, Cond.code yX2_checkPerson cX2_checkPerson 1 none, Cond.classLink RX2 108 "java/lang/IndexOutOfBoundsException", Cond.initialized "java/lang/IndexOutOfBoundsException", Cond.methodLink RX2 71 yX2_checkColour, Cond.static yX2_checkColour, Cond.code yX2_checkColour cX2_checkColour 1 none, Cond.methodLink RX2 74 yX2_checkRange, Cond.static yX2_checkRange, Cond.code yX2_checkRange cX2_checkRange 3 none]
def wsL_bring_r2 : List Cond := [Cond.classLink RX2 150 "java/lang/IllegalArgumentException", Cond.initialized "java/lang/IllegalArgumentException"]
def wsL_bring : List Cond := .codeWith yL_bring cL_bring 6 (some .int) [(0, 12, 15, 13), (0, 12, 19, 15), (0, 12, 23, 17)] :: ((wsL_bring_r1 ++ wsL_bring_r2) ++ wsX20 ++ (vx_atS RX2 83 "java/lang/IllegalStateException" ["java/lang/RuntimeException", "java/lang/Exception"]).filter goodWord ++ (vx_atS RX2 112 "java/lang/IndexOutOfBoundsException" ["java/lang/RuntimeException", "java/lang/Exception"]).filter goodWord ++ (vx_atS RX2 154 "java/lang/IllegalArgumentException" ["java/lang/RuntimeException", "java/lang/Exception"]).filter goodWord)
def wsL_lay_r1 : List Cond := [Cond.classLink RL 13 "java/lang/IndexOutOfBoundsException", Cond.classLink RL 15 "java/lang/IllegalArgumentException", Cond.classLink RL 17 "java/lang/IllegalStateException", Cond.methodLink RL 19 yX2_lay, Cond.instanceMethod yX2_lay, Cond.selects RX2 yX2_lay yX2_lay, Cond.initialized RX2, Cond.code yX2_lay cX2_lay 6 (some .int), Cond.classLink RX2 79 "java/lang/IllegalStateException", Cond.initialized "java/lang/IllegalStateException", Cond.fieldLink RX2 11 "BeadParley" "hands" "[[I", Cond.fieldLink RX2 14 "BeadParley" "stall" "[I", Cond.constant RX2 78 (100000), Cond.methodLink RX2 67 yX2_checkPerson, Cond.static yX2_checkPerson, Cond.code yX2_checkPerson cX2_checkPerson 1 none, Cond.classLink RX2 108 "java/lang/IndexOutOfBoundsException", Cond.initialized "java/lang/IndexOutOfBoundsException", Cond.methodLink RX2 71 yX2_checkColour, Cond.static yX2_checkColour, Cond.code yX2_checkColour cX2_checkColour 1 none, Cond.methodLink RX2 74 yX2_checkRange, Cond.static yX2_checkRange, Cond.code yX2_checkRange cX2_checkRange 3 none]
def wsL_lay_r2 : List Cond := [Cond.classLink RX2 150 "java/lang/IllegalArgumentException", Cond.initialized "java/lang/IllegalArgumentException"]
def wsL_lay : List Cond := .codeWith yL_lay cL_lay 6 (some .int) [(0, 12, 15, 13), (0, 12, 19, 15), (0, 12, 23, 17)] :: ((wsL_lay_r1 ++ wsL_lay_r2) ++ wsX20 ++ (vx_atS RX2 83 "java/lang/IllegalStateException" ["java/lang/RuntimeException", "java/lang/Exception"]).filter goodWord ++ (vx_atS RX2 112 "java/lang/IndexOutOfBoundsException" ["java/lang/RuntimeException", "java/lang/Exception"]).filter goodWord ++ (vx_atS RX2 154 "java/lang/IllegalArgumentException" ["java/lang/RuntimeException", "java/lang/Exception"]).filter goodWord)
def wsL_hand : List Cond := .codeWith yL_hand cL_hand 5 (some .int) [(0, 10, 13, 13)] :: ([.classLink RL 13 "java/lang/IndexOutOfBoundsException", .methodLink RL 22 yX2_hand, .instanceMethod yX2_hand, .selects RX2 yX2_hand yX2_hand, .initialized RX2, .code yX2_hand cX2_hand 3 (some .int), .fieldLink RX2 11 "BeadParley" "hands" "[[I", .methodLink RX2 67 yX2_checkPerson, .static yX2_checkPerson, .code yX2_checkPerson cX2_checkPerson 1 none, .classLink RX2 108 "java/lang/IndexOutOfBoundsException", .initialized "java/lang/IndexOutOfBoundsException", .methodLink RX2 71 yX2_checkColour, .static yX2_checkColour, .code yX2_checkColour cX2_checkColour 1 none] ++ wsX20 ++ (vx_atS RX2 112 "java/lang/IndexOutOfBoundsException" ["java/lang/RuntimeException", "java/lang/Exception"]).filter goodWord)
def wsL_beads_r1 : List Cond := [Cond.classLink RL 13 "java/lang/IndexOutOfBoundsException", Cond.methodLink RL 26 yX2_beads, Cond.instanceMethod yX2_beads, Cond.selects RX2 yX2_beads yX2_beads, Cond.initialized RX2, Cond.code yX2_beads cX2_beads 4 (some .int), Cond.fieldLink RX2 14 "BeadParley" "stall" "[I", Cond.fieldLink RX2 11 "BeadParley" "hands" "[[I", Cond.fieldLink RX2 28 "BeadParley" "patternGrids" "[LBeadParley$Grid;", Cond.fieldLink RX2 35 "BeadParley" "beltPatterns" "[I", Cond.methodLink RX2 71 yX2_checkColour, Cond.static yX2_checkColour, Cond.code yX2_checkColour cX2_checkColour 1 none, Cond.classLink RX2 108 "java/lang/IndexOutOfBoundsException", Cond.initialized "java/lang/IndexOutOfBoundsException", Cond.methodLink RX2 88 yX2_isBelt, Cond.instanceMethod yX2_isBelt, Cond.selects RX2 yX2_isBelt yX2_isBelt, Cond.code yX2_isBelt cX2_isBelt 2 (some .boolean), Cond.instanceMethod yX1_cellsOf, Cond.initialized RX1, Cond.selects RX1 yX1_cellsOf yX1_cellsOf, Cond.code yX1_cellsOf cX1_cellsOf 4 (some .int), Cond.fieldLink RX1 9 "BeadParley$Grid" "cells" "[I"]
def wsL_beads_r2 : List Cond := [Cond.methodLink RX1 34 yX1_size, Cond.instanceMethod yX1_size, Cond.selects RX1 yX1_size yX1_size, Cond.code yX1_size cX1_size 1 (some .int), Cond.fieldLink RX1 15 "BeadParley$Grid" "columns" "I", Cond.fieldLink RX1 19 "BeadParley$Grid" "rows" "I"]
def wsL_beads : List Cond := .codeWith yL_beads cL_beads 4 (some .int) [(0, 9, 12, 13)] :: ((wsL_beads_r1 ++ wsL_beads_r2) ++ wsX20 ++ wsX10 ++ (vx_atS RX2 112 "java/lang/IndexOutOfBoundsException" ["java/lang/RuntimeException", "java/lang/Exception"]).filter goodWord)
def wsL_brought : List Cond := .codeWith yL_brought cL_brought 4 (some .int) [(0, 9, 12, 13)] :: ([.classLink RL 13 "java/lang/IndexOutOfBoundsException", .methodLink RL 30 yX2_brought, .instanceMethod yX2_brought, .selects RX2 yX2_brought yX2_brought, .initialized RX2, .code yX2_brought cX2_brought 2 (some .int), .fieldLink RX2 18 "BeadParley" "broughtSoFar" "[I", .methodLink RX2 71 yX2_checkColour, .static yX2_checkColour, .code yX2_checkColour cX2_checkColour 1 none, .classLink RX2 108 "java/lang/IndexOutOfBoundsException", .initialized "java/lang/IndexOutOfBoundsException"] ++ wsX20 ++ (vx_atS RX2 112 "java/lang/IndexOutOfBoundsException" ["java/lang/RuntimeException", "java/lang/Exception"]).filter goodWord)
def wsL_draft_r1 : List Cond := [Cond.classLink RL 15 "java/lang/IllegalArgumentException", Cond.methodLink RL 33 yX2_draft, Cond.instanceMethod yX2_draft, Cond.selects RX2 yX2_draft yX2_draft, Cond.initialized RX2, Cond.code yX2_draft cX2_draft 3 (some .int), Cond.fieldLink RX2 24 "BeadParley" "draftGrid" "LBeadParley$Grid;", Cond.methodLink RX2 74 yX2_checkRange, Cond.static yX2_checkRange, Cond.code yX2_checkRange cX2_checkRange 3 none, Cond.classLink RX2 150 "java/lang/IllegalArgumentException", Cond.initialized "java/lang/IllegalArgumentException", Cond.instanceMethod yX1_begin, Cond.initialized RX1, Cond.selects RX1 yX1_begin yX1_begin, Cond.code yX1_begin cX1_begin 3 none, Cond.fieldLink RX1 15 "BeadParley$Grid" "columns" "I", Cond.fieldLink RX1 19 "BeadParley$Grid" "rows" "I", Cond.fieldLink RX1 9 "BeadParley$Grid" "cells" "[I", Cond.methodLink RX1 22 yJ7_fill_53178, Cond.static yJ7_fill_53178, Cond.initialized RJ7, Cond.code yJ7_fill_53178 cJ7_fill_53178 4 none, Cond.instanceMethod yX1_size]
def wsL_draft_r2 : List Cond := [Cond.selects RX1 yX1_size yX1_size, Cond.code yX1_size cX1_size 1 (some .int)]
def wsL_draft : List Cond := .codeWith yL_draft cL_draft 5 (some .int) [(0, 10, 13, 15)] :: ((wsL_draft_r1 ++ wsL_draft_r2) ++ wsX20 ++ wsX10 ++ (vx_atS RX2 154 "java/lang/IllegalArgumentException" ["java/lang/RuntimeException", "java/lang/Exception"]).filter goodWord)
def wsL_bead_r1 : List Cond := [Cond.classLink RL 13 "java/lang/IndexOutOfBoundsException", Cond.methodLink RL 36 yX2_bead, Cond.instanceMethod yX2_bead, Cond.selects RX2 yX2_bead yX2_bead, Cond.initialized RX2, Cond.code yX2_bead cX2_bead 5 (some .int), Cond.classLink RX2 108 "java/lang/IndexOutOfBoundsException", Cond.initialized "java/lang/IndexOutOfBoundsException", Cond.fieldLink RX2 24 "BeadParley" "draftGrid" "LBeadParley$Grid;", Cond.instanceMethod yX1_hasCell, Cond.initialized RX1, Cond.selects RX1 yX1_hasCell yX1_hasCell, Cond.code yX1_hasCell cX1_hasCell 3 (some .boolean), Cond.fieldLink RX1 15 "BeadParley$Grid" "columns" "I", Cond.fieldLink RX1 19 "BeadParley$Grid" "rows" "I", Cond.methodLink RX2 71 yX2_checkColour, Cond.static yX2_checkColour, Cond.code yX2_checkColour cX2_checkColour 1 none, Cond.instanceMethod yX1_colourAt, Cond.selects RX1 yX1_colourAt yX1_colourAt, Cond.code yX1_colourAt cX1_colourAt 3 (some .int), Cond.fieldLink RX1 9 "BeadParley$Grid" "cells" "[I", Cond.instanceMethod yX1_paint, Cond.selects RX1 yX1_paint yX1_paint]
def wsL_bead_r2 : List Cond := [Cond.code yX1_paint cX1_paint 4 none]
def wsL_bead : List Cond := .codeWith yL_bead cL_bead 6 (some .int) [(0, 12, 15, 13)] :: ((wsL_bead_r1 ++ wsL_bead_r2) ++ wsX20 ++ wsX10 ++ (vx_atS RX2 112 "java/lang/IndexOutOfBoundsException" ["java/lang/RuntimeException", "java/lang/Exception"]).filter goodWord)
def wsL_pattern_r1 : List Cond := [Cond.classLink RL 13 "java/lang/IndexOutOfBoundsException", Cond.classLink RL 17 "java/lang/IllegalStateException", Cond.methodLink RL 39 yX2_pattern, Cond.instanceMethod yX2_pattern, Cond.selects RX2 yX2_pattern yX2_pattern, Cond.initialized RX2, Cond.code yX2_pattern cX2_pattern 3 (some .int), Cond.classLink RX2 79 "java/lang/IllegalStateException", Cond.initialized "java/lang/IllegalStateException", Cond.fieldLink RX2 120 "BeadParley" "patternCount" "I", Cond.fieldLink RX2 28 "BeadParley" "patternGrids" "[LBeadParley$Grid;", Cond.fieldLink RX2 24 "BeadParley" "draftGrid" "LBeadParley$Grid;", Cond.fieldLink RX2 32 "BeadParley" "patternAuthors" "[I", Cond.methodLink RX2 67 yX2_checkPerson, Cond.static yX2_checkPerson, Cond.code yX2_checkPerson cX2_checkPerson 1 none, Cond.classLink RX2 108 "java/lang/IndexOutOfBoundsException", Cond.initialized "java/lang/IndexOutOfBoundsException", Cond.instanceMethod yX1_copyFrom, Cond.initialized RX1, Cond.selects RX1 yX1_copyFrom yX1_copyFrom, Cond.code yX1_copyFrom cX1_copyFrom 2 none, Cond.fieldLink RX1 15 "BeadParley$Grid" "columns" "I", Cond.fieldLink RX1 19 "BeadParley$Grid" "rows" "I"]
def wsL_pattern_r2 : List Cond := [Cond.fieldLink RX1 9 "BeadParley$Grid" "cells" "[I", Cond.methodLink RX1 28 arraycopyName, Cond.native arraycopyName, Cond.static arraycopyName, Cond.initialized "java/lang/System"]
def wsL_pattern : List Cond := .codeWith yL_pattern cL_pattern 4 (some .int) [(0, 9, 12, 13), (0, 9, 15, 17)] :: ((wsL_pattern_r1 ++ wsL_pattern_r2) ++ wsX20 ++ wsX10 ++ (vx_atS RX2 83 "java/lang/IllegalStateException" ["java/lang/RuntimeException", "java/lang/Exception"]).filter goodWord ++ (vx_atS RX2 112 "java/lang/IndexOutOfBoundsException" ["java/lang/RuntimeException", "java/lang/Exception"]).filter goodWord)
def wsL_symmetries_r1 : List Cond := [Cond.classLink RL 13 "java/lang/IndexOutOfBoundsException", Cond.methodLink RL 42 yX2_symmetries, Cond.instanceMethod yX2_symmetries, Cond.selects RX2 yX2_symmetries yX2_symmetries, Cond.initialized RX2, Cond.code yX2_symmetries cX2_symmetries 3 (some .int), Cond.fieldLink RX2 28 "BeadParley" "patternGrids" "[LBeadParley$Grid;", Cond.methodLink RX2 130 yX2_checkPattern, Cond.instanceMethod yX2_checkPattern, Cond.selects RX2 yX2_checkPattern yX2_checkPattern, Cond.code yX2_checkPattern cX2_checkPattern 2 none, Cond.classLink RX2 108 "java/lang/IndexOutOfBoundsException", Cond.initialized "java/lang/IndexOutOfBoundsException", Cond.fieldLink RX2 120 "BeadParley" "patternCount" "I", Cond.instanceMethod yX1_hasImage, Cond.initialized RX1, Cond.selects RX1 yX1_hasImage yX1_hasImage, Cond.code yX1_hasImage cX1_hasImage 6 (some .boolean), Cond.fieldLink RX1 15 "BeadParley$Grid" "columns" "I", Cond.fieldLink RX1 19 "BeadParley$Grid" "rows" "I", Cond.methodLink RX1 38 yX1_colourInImage, Cond.instanceMethod yX1_colourInImage, Cond.selects RX1 yX1_colourInImage yX1_colourInImage, Cond.code yX1_colourInImage cX1_colourInImage 6 (some .int)]
def wsL_symmetries_r2 : List Cond := [Cond.methodLink RX1 42 yX1_colourAt, Cond.instanceMethod yX1_colourAt, Cond.selects RX1 yX1_colourAt yX1_colourAt, Cond.code yX1_colourAt cX1_colourAt 3 (some .int), Cond.fieldLink RX1 9 "BeadParley$Grid" "cells" "[I"]
def wsL_symmetries : List Cond := .codeWith yL_symmetries cL_symmetries 4 (some .int) [(0, 9, 12, 13)] :: ((wsL_symmetries_r1 ++ wsL_symmetries_r2) ++ wsX20 ++ wsX10 ++ (vx_atS RX2 112 "java/lang/IndexOutOfBoundsException" ["java/lang/RuntimeException", "java/lang/Exception"]).filter goodWord)
def wsL_origin_r1 : List Cond := [Cond.classLink RL 13 "java/lang/IndexOutOfBoundsException", Cond.methodLink RL 45 yX2_origin, Cond.instanceMethod yX2_origin, Cond.selects RX2 yX2_origin yX2_origin, Cond.initialized RX2, Cond.code yX2_origin cX2_origin 2 (some .int), Cond.methodLink RX2 130 yX2_checkPattern, Cond.instanceMethod yX2_checkPattern, Cond.selects RX2 yX2_checkPattern yX2_checkPattern, Cond.code yX2_checkPattern cX2_checkPattern 2 none, Cond.classLink RX2 108 "java/lang/IndexOutOfBoundsException", Cond.initialized "java/lang/IndexOutOfBoundsException", Cond.fieldLink RX2 120 "BeadParley" "patternCount" "I", Cond.methodLink RX2 137 yX2_originOf, Cond.instanceMethod yX2_originOf, Cond.selects RX2 yX2_originOf yX2_originOf, Cond.code yX2_originOf cX2_originOf 4 (some .int), Cond.fieldLink RX2 28 "BeadParley" "patternGrids" "[LBeadParley$Grid;", Cond.instanceMethod yX1_hasImage, Cond.initialized RX1, Cond.selects RX1 yX1_hasImage yX1_hasImage, Cond.code yX1_hasImage cX1_hasImage 6 (some .boolean), Cond.fieldLink RX1 15 "BeadParley$Grid" "columns" "I", Cond.fieldLink RX1 19 "BeadParley$Grid" "rows" "I"]
def wsL_origin_r2 : List Cond := [Cond.methodLink RX1 38 yX1_colourInImage, Cond.instanceMethod yX1_colourInImage, Cond.selects RX1 yX1_colourInImage yX1_colourInImage, Cond.code yX1_colourInImage cX1_colourInImage 6 (some .int), Cond.methodLink RX1 42 yX1_colourAt, Cond.instanceMethod yX1_colourAt, Cond.selects RX1 yX1_colourAt yX1_colourAt, Cond.code yX1_colourAt cX1_colourAt 3 (some .int), Cond.fieldLink RX1 9 "BeadParley$Grid" "cells" "[I"]
def wsL_origin : List Cond := .codeWith yL_origin cL_origin 4 (some .int) [(0, 9, 12, 13)] :: ((wsL_origin_r1 ++ wsL_origin_r2) ++ wsX20 ++ wsX10 ++ (vx_atS RX2 112 "java/lang/IndexOutOfBoundsException" ["java/lang/RuntimeException", "java/lang/Exception"]).filter goodWord)
def wsL_needs_r1 : List Cond := [Cond.classLink RL 13 "java/lang/IndexOutOfBoundsException", Cond.methodLink RL 48 yX2_needs, Cond.instanceMethod yX2_needs, Cond.selects RX2 yX2_needs yX2_needs, Cond.initialized RX2, Cond.code yX2_needs cX2_needs 3 (some .int), Cond.fieldLink RX2 28 "BeadParley" "patternGrids" "[LBeadParley$Grid;", Cond.methodLink RX2 130 yX2_checkPattern, Cond.instanceMethod yX2_checkPattern, Cond.selects RX2 yX2_checkPattern yX2_checkPattern, Cond.code yX2_checkPattern cX2_checkPattern 2 none, Cond.classLink RX2 108 "java/lang/IndexOutOfBoundsException", Cond.initialized "java/lang/IndexOutOfBoundsException", Cond.fieldLink RX2 120 "BeadParley" "patternCount" "I", Cond.methodLink RX2 71 yX2_checkColour, Cond.static yX2_checkColour, Cond.code yX2_checkColour cX2_checkColour 1 none, Cond.instanceMethod yX1_cellsOf, Cond.initialized RX1, Cond.selects RX1 yX1_cellsOf yX1_cellsOf, Cond.code yX1_cellsOf cX1_cellsOf 4 (some .int), Cond.fieldLink RX1 9 "BeadParley$Grid" "cells" "[I", Cond.methodLink RX1 34 yX1_size, Cond.instanceMethod yX1_size]
def wsL_needs_r2 : List Cond := [Cond.selects RX1 yX1_size yX1_size, Cond.code yX1_size cX1_size 1 (some .int), Cond.fieldLink RX1 15 "BeadParley$Grid" "columns" "I", Cond.fieldLink RX1 19 "BeadParley$Grid" "rows" "I"]
def wsL_needs : List Cond := .codeWith yL_needs cL_needs 5 (some .int) [(0, 10, 13, 13)] :: ((wsL_needs_r1 ++ wsL_needs_r2) ++ wsX20 ++ wsX10 ++ (vx_atS RX2 112 "java/lang/IndexOutOfBoundsException" ["java/lang/RuntimeException", "java/lang/Exception"]).filter goodWord)
def wsL_weave_r1 : List Cond := [Cond.classLink RL 13 "java/lang/IndexOutOfBoundsException", Cond.classLink RL 17 "java/lang/IllegalStateException", Cond.methodLink RL 51 yX2_weave, Cond.instanceMethod yX2_weave, Cond.selects RX2 yX2_weave yX2_weave, Cond.initialized RX2, Cond.code yX2_weave cX2_weave 6 (some .int), Cond.classLink RX2 79 "java/lang/IllegalStateException", Cond.initialized "java/lang/IllegalStateException", Cond.fieldLink RX2 28 "BeadParley" "patternGrids" "[LBeadParley$Grid;", Cond.fieldLink RX2 11 "BeadParley" "hands" "[[I", Cond.fieldLink RX2 35 "BeadParley" "beltPatterns" "[I", Cond.fieldLink RX2 38 "BeadParley" "beltOwners" "[I", Cond.fieldLink RX2 41 "BeadParley" "creditsOf" "[I", Cond.fieldLink RX2 32 "BeadParley" "patternAuthors" "[I", Cond.methodLink RX2 67 yX2_checkPerson, Cond.static yX2_checkPerson, Cond.code yX2_checkPerson cX2_checkPerson 1 none, Cond.classLink RX2 108 "java/lang/IndexOutOfBoundsException", Cond.initialized "java/lang/IndexOutOfBoundsException", Cond.methodLink RX2 130 yX2_checkPattern, Cond.instanceMethod yX2_checkPattern, Cond.selects RX2 yX2_checkPattern yX2_checkPattern, Cond.code yX2_checkPattern cX2_checkPattern 2 none]
def wsL_weave_r2 : List Cond := [Cond.fieldLink RX2 120 "BeadParley" "patternCount" "I", Cond.methodLink RX2 140 yX2_lowestFreeBelt, Cond.instanceMethod yX2_lowestFreeBelt, Cond.selects RX2 yX2_lowestFreeBelt yX2_lowestFreeBelt, Cond.code yX2_lowestFreeBelt cX2_lowestFreeBelt 2 (some .int), Cond.methodLink RX2 88 yX2_isBelt, Cond.instanceMethod yX2_isBelt, Cond.selects RX2 yX2_isBelt yX2_isBelt, Cond.code yX2_isBelt cX2_isBelt 2 (some .boolean), Cond.instanceMethod yX1_cellsOf, Cond.initialized RX1, Cond.selects RX1 yX1_cellsOf yX1_cellsOf, Cond.code yX1_cellsOf cX1_cellsOf 4 (some .int), Cond.fieldLink RX1 9 "BeadParley$Grid" "cells" "[I", Cond.methodLink RX1 34 yX1_size, Cond.instanceMethod yX1_size, Cond.selects RX1 yX1_size yX1_size, Cond.code yX1_size cX1_size 1 (some .int), Cond.fieldLink RX1 15 "BeadParley$Grid" "columns" "I", Cond.fieldLink RX1 19 "BeadParley$Grid" "rows" "I", Cond.methodLink RX2 137 yX2_originOf, Cond.instanceMethod yX2_originOf, Cond.selects RX2 yX2_originOf yX2_originOf, Cond.code yX2_originOf cX2_originOf 4 (some .int)]
def wsL_weave_r3 : List Cond := [Cond.instanceMethod yX1_hasImage, Cond.selects RX1 yX1_hasImage yX1_hasImage, Cond.code yX1_hasImage cX1_hasImage 6 (some .boolean), Cond.methodLink RX1 38 yX1_colourInImage, Cond.instanceMethod yX1_colourInImage, Cond.selects RX1 yX1_colourInImage yX1_colourInImage, Cond.code yX1_colourInImage cX1_colourInImage 6 (some .int), Cond.methodLink RX1 42 yX1_colourAt, Cond.instanceMethod yX1_colourAt, Cond.selects RX1 yX1_colourAt yX1_colourAt, Cond.code yX1_colourAt cX1_colourAt 3 (some .int)]
def wsL_weave : List Cond := .codeWith yL_weave cL_weave 5 (some .int) [(0, 10, 13, 13), (0, 10, 17, 17)] :: ((wsL_weave_r1 ++ (wsL_weave_r2 ++ wsL_weave_r3)) ++ wsX20 ++ wsX10 ++ (vx_atS RX2 83 "java/lang/IllegalStateException" ["java/lang/RuntimeException", "java/lang/Exception"]).filter goodWord ++ (vx_atS RX2 112 "java/lang/IndexOutOfBoundsException" ["java/lang/RuntimeException", "java/lang/Exception"]).filter goodWord)
def wsL_apart_r1 : List Cond := [Cond.classLink RL 13 "java/lang/IndexOutOfBoundsException", Cond.classLink RL 17 "java/lang/IllegalStateException", Cond.methodLink RL 54 yX2_apart, Cond.instanceMethod yX2_apart, Cond.selects RX2 yX2_apart yX2_apart, Cond.initialized RX2, Cond.code yX2_apart cX2_apart 5 (some .int), Cond.classLink RX2 79 "java/lang/IllegalStateException", Cond.initialized "java/lang/IllegalStateException", Cond.fieldLink RX2 28 "BeadParley" "patternGrids" "[LBeadParley$Grid;", Cond.fieldLink RX2 35 "BeadParley" "beltPatterns" "[I", Cond.fieldLink RX2 11 "BeadParley" "hands" "[[I", Cond.fieldLink RX2 38 "BeadParley" "beltOwners" "[I", Cond.constant RX2 78 (100000), Cond.methodLink RX2 147 yX2_checkBelt, Cond.instanceMethod yX2_checkBelt, Cond.selects RX2 yX2_checkBelt yX2_checkBelt, Cond.code yX2_checkBelt cX2_checkBelt 2 none, Cond.classLink RX2 108 "java/lang/IndexOutOfBoundsException", Cond.initialized "java/lang/IndexOutOfBoundsException", Cond.methodLink RX2 88 yX2_isBelt, Cond.instanceMethod yX2_isBelt, Cond.selects RX2 yX2_isBelt yX2_isBelt, Cond.code yX2_isBelt cX2_isBelt 2 (some .boolean)]
def wsL_apart_r2 : List Cond := [Cond.instanceMethod yX1_cellsOf, Cond.initialized RX1, Cond.selects RX1 yX1_cellsOf yX1_cellsOf, Cond.code yX1_cellsOf cX1_cellsOf 4 (some .int), Cond.fieldLink RX1 9 "BeadParley$Grid" "cells" "[I", Cond.methodLink RX1 34 yX1_size, Cond.instanceMethod yX1_size, Cond.selects RX1 yX1_size yX1_size, Cond.code yX1_size cX1_size 1 (some .int), Cond.fieldLink RX1 15 "BeadParley$Grid" "columns" "I", Cond.fieldLink RX1 19 "BeadParley$Grid" "rows" "I"]
def wsL_apart : List Cond := .codeWith yL_apart cL_apart 4 (some .int) [(0, 9, 12, 13), (0, 9, 15, 17)] :: ((wsL_apart_r1 ++ wsL_apart_r2) ++ wsX20 ++ wsX10 ++ (vx_atS RX2 83 "java/lang/IllegalStateException" ["java/lang/RuntimeException", "java/lang/Exception"]).filter goodWord ++ (vx_atS RX2 112 "java/lang/IndexOutOfBoundsException" ["java/lang/RuntimeException", "java/lang/Exception"]).filter goodWord)
def wsL_give : List Cond := .codeWith yL_give cL_give 5 (some .int) [(0, 10, 13, 13)] :: ([.classLink RL 13 "java/lang/IndexOutOfBoundsException", .methodLink RL 57 yX2_give, .instanceMethod yX2_give, .selects RX2 yX2_give yX2_give, .initialized RX2, .code yX2_give cX2_give 4 (some .int), .fieldLink RX2 38 "BeadParley" "beltOwners" "[I", .methodLink RX2 147 yX2_checkBelt, .instanceMethod yX2_checkBelt, .selects RX2 yX2_checkBelt yX2_checkBelt, .code yX2_checkBelt cX2_checkBelt 2 none, .classLink RX2 108 "java/lang/IndexOutOfBoundsException", .initialized "java/lang/IndexOutOfBoundsException", .methodLink RX2 88 yX2_isBelt, .instanceMethod yX2_isBelt, .selects RX2 yX2_isBelt yX2_isBelt, .code yX2_isBelt cX2_isBelt 2 (some .boolean), .fieldLink RX2 35 "BeadParley" "beltPatterns" "[I", .methodLink RX2 67 yX2_checkPerson, .static yX2_checkPerson, .code yX2_checkPerson cX2_checkPerson 1 none] ++ wsX20 ++ (vx_atS RX2 112 "java/lang/IndexOutOfBoundsException" ["java/lang/RuntimeException", "java/lang/Exception"]).filter goodWord)
def wsL_owner : List Cond := .codeWith yL_owner cL_owner 4 (some .int) [(0, 9, 12, 13)] :: ([.classLink RL 13 "java/lang/IndexOutOfBoundsException", .methodLink RL 60 yX2_owner, .instanceMethod yX2_owner, .selects RX2 yX2_owner yX2_owner, .initialized RX2, .code yX2_owner cX2_owner 2 (some .int), .fieldLink RX2 38 "BeadParley" "beltOwners" "[I", .methodLink RX2 147 yX2_checkBelt, .instanceMethod yX2_checkBelt, .selects RX2 yX2_checkBelt yX2_checkBelt, .code yX2_checkBelt cX2_checkBelt 2 none, .classLink RX2 108 "java/lang/IndexOutOfBoundsException", .initialized "java/lang/IndexOutOfBoundsException", .methodLink RX2 88 yX2_isBelt, .instanceMethod yX2_isBelt, .selects RX2 yX2_isBelt yX2_isBelt, .code yX2_isBelt cX2_isBelt 2 (some .boolean), .fieldLink RX2 35 "BeadParley" "beltPatterns" "[I"] ++ wsX20 ++ (vx_atS RX2 112 "java/lang/IndexOutOfBoundsException" ["java/lang/RuntimeException", "java/lang/Exception"]).filter goodWord)
def wsL_credits : List Cond := .codeWith yL_credits cL_credits 4 (some .int) [(0, 9, 12, 13)] :: ([.classLink RL 13 "java/lang/IndexOutOfBoundsException", .methodLink RL 63 yX2_credits, .instanceMethod yX2_credits, .selects RX2 yX2_credits yX2_credits, .initialized RX2, .code yX2_credits cX2_credits 2 (some .int), .fieldLink RX2 41 "BeadParley" "creditsOf" "[I", .methodLink RX2 67 yX2_checkPerson, .static yX2_checkPerson, .code yX2_checkPerson cX2_checkPerson 1 none, .classLink RX2 108 "java/lang/IndexOutOfBoundsException", .initialized "java/lang/IndexOutOfBoundsException"] ++ wsX20 ++ (vx_atS RX2 112 "java/lang/IndexOutOfBoundsException" ["java/lang/RuntimeException", "java/lang/Exception"]).filter goodWord)
def wsL_wish_r1 : List Cond := [Cond.classLink RL 13 "java/lang/IndexOutOfBoundsException", Cond.classLink RL 15 "java/lang/IllegalArgumentException", Cond.methodLink RL 66 yX2_wish, Cond.instanceMethod yX2_wish, Cond.selects RX2 yX2_wish yX2_wish, Cond.initialized RX2, Cond.code yX2_wish cX2_wish 5 (some .boolean), Cond.classLink RX2 150 "java/lang/IllegalArgumentException", Cond.initialized "java/lang/IllegalArgumentException", Cond.fieldLink RX2 47 "BeadParley" "barter" "LBeadParley$Barter;", Cond.methodLink RX2 67 yX2_checkPerson, Cond.static yX2_checkPerson, Cond.code yX2_checkPerson cX2_checkPerson 1 none, Cond.classLink RX2 108 "java/lang/IndexOutOfBoundsException", Cond.initialized "java/lang/IndexOutOfBoundsException", Cond.methodLink RX2 71 yX2_checkColour, Cond.static yX2_checkColour, Cond.code yX2_checkColour cX2_checkColour 1 none, Cond.instanceMethod yX0_hasWish, Cond.initialized RX0, Cond.selects RX0 yX0_hasWish yX0_hasWish, Cond.code yX0_hasWish cX0_hasWish 2 (some .boolean), Cond.fieldLink RX0 9 "BeadParley$Barter" "gives" "[I", Cond.instanceMethod yX0_setWish]
def wsL_wish_r2 : List Cond := [Cond.selects RX0 yX0_setWish yX0_setWish, Cond.code yX0_setWish cX0_setWish 4 none, Cond.fieldLink RX0 15 "BeadParley$Barter" "wants" "[I"]
def wsL_wish : List Cond := .codeWith yL_wish cL_wish 6 (some .int) [(0, 19, 22, 13), (0, 19, 26, 15)] :: ((wsL_wish_r1 ++ wsL_wish_r2) ++ wsX20 ++ wsX00 ++ (vx_atS RX2 154 "java/lang/IllegalArgumentException" ["java/lang/RuntimeException", "java/lang/Exception"]).filter goodWord ++ (vx_atS RX2 112 "java/lang/IndexOutOfBoundsException" ["java/lang/RuntimeException", "java/lang/Exception"]).filter goodWord)
def wsL_unwish : List Cond := .codeWith yL_unwish cL_unwish 4 (some .int) [(0, 16, 19, 13)] :: ([.classLink RL 13 "java/lang/IndexOutOfBoundsException", .methodLink RL 70 yX2_unwish, .instanceMethod yX2_unwish, .selects RX2 yX2_unwish yX2_unwish, .initialized RX2, .code yX2_unwish cX2_unwish 3 (some .boolean), .fieldLink RX2 47 "BeadParley" "barter" "LBeadParley$Barter;", .methodLink RX2 67 yX2_checkPerson, .static yX2_checkPerson, .code yX2_checkPerson cX2_checkPerson 1 none, .classLink RX2 108 "java/lang/IndexOutOfBoundsException", .initialized "java/lang/IndexOutOfBoundsException", .instanceMethod yX0_hasWish, .initialized RX0, .selects RX0 yX0_hasWish yX0_hasWish, .code yX0_hasWish cX0_hasWish 2 (some .boolean), .fieldLink RX0 9 "BeadParley$Barter" "gives" "[I", .instanceMethod yX0_setWish, .selects RX0 yX0_setWish yX0_setWish, .code yX0_setWish cX0_setWish 4 none, .fieldLink RX0 15 "BeadParley$Barter" "wants" "[I"] ++ wsX20 ++ wsX00 ++ (vx_atS RX2 112 "java/lang/IndexOutOfBoundsException" ["java/lang/RuntimeException", "java/lang/Exception"]).filter goodWord)
def wsL_chainAt_r1 : List Cond := [Cond.classLink RL 13 "java/lang/IndexOutOfBoundsException", Cond.methodLink RL 74 yX2_chainAt, Cond.instanceMethod yX2_chainAt, Cond.selects RX2 yX2_chainAt yX2_chainAt, Cond.initialized RX2, Cond.code yX2_chainAt cX2_chainAt 2 (some .int), Cond.classLink RX2 108 "java/lang/IndexOutOfBoundsException", Cond.initialized "java/lang/IndexOutOfBoundsException", Cond.fieldLink RX2 47 "BeadParley" "barter" "LBeadParley$Barter;", Cond.fieldLink RX2 11 "BeadParley" "hands" "[[I", Cond.instanceMethod yX0_findBest, Cond.initialized RX0, Cond.selects RX0 yX0_findBest yX0_findBest, Cond.code yX0_findBest cX0_findBest 3 none, Cond.fieldLink RX0 42 "BeadParley$Barter" "bestLength" "I", Cond.fieldLink RX0 18 "BeadParley$Barter" "ready" "[Z", Cond.fieldLink RX0 22 "BeadParley$Barter" "row" "[I", Cond.methodLink RX0 38 yX0_markReady, Cond.instanceMethod yX0_markReady, Cond.selects RX0 yX0_markReady yX0_markReady, Cond.code yX0_markReady cX0_markReady 3 none, Cond.fieldLink RX0 9 "BeadParley$Barter" "gives" "[I", Cond.methodLink RX0 34 yX0_hasWish, Cond.instanceMethod yX0_hasWish]
def wsL_chainAt_r2 : List Cond := [Cond.selects RX0 yX0_hasWish yX0_hasWish, Cond.code yX0_hasWish cX0_hasWish 2 (some .boolean), Cond.methodLink RX0 46 yX0_extend, Cond.static yX0_extend, Cond.code yX0_extend cX0_extend 5 none, Cond.fieldLink RX0 25 "BeadParley$Barter" "best" "[I", Cond.methodLink RX0 54 arraycopyName, Cond.native arraycopyName, Cond.static arraycopyName, Cond.initialized "java/lang/System", Cond.methodLink RX0 50 yX0_getsFrom, Cond.instanceMethod yX0_getsFrom, Cond.selects RX0 yX0_getsFrom yX0_getsFrom, Cond.code yX0_getsFrom cX0_getsFrom 3 (some .boolean), Cond.fieldLink RX0 15 "BeadParley$Barter" "wants" "[I", Cond.methodLink RX0 60 yX0_isInRow, Cond.instanceMethod yX0_isInRow, Cond.selects RX0 yX0_isInRow yX0_isInRow, Cond.code yX0_isInRow cX0_isInRow 4 (some .boolean)]
def wsL_chainAt : List Cond := .codeWith yL_chainAt cL_chainAt 4 (some .int) [(0, 9, 12, 13)] :: ((wsL_chainAt_r1 ++ wsL_chainAt_r2) ++ wsX20 ++ wsX00 ++ (vx_atS RX2 112 "java/lang/IndexOutOfBoundsException" ["java/lang/RuntimeException", "java/lang/Exception"]).filter goodWord)
def wsL_sign_r1 : List Cond := [Cond.classLink RL 15 "java/lang/IllegalArgumentException", Cond.classLink RL 17 "java/lang/IllegalStateException", Cond.methodLink RL 77 yX2_sign, Cond.instanceMethod yX2_sign, Cond.selects RX2 yX2_sign yX2_sign, Cond.initialized RX2, Cond.code yX2_sign cX2_sign 3 (some .int), Cond.classLink RX2 79 "java/lang/IllegalStateException", Cond.initialized "java/lang/IllegalStateException", Cond.fieldLink RX2 24 "BeadParley" "draftGrid" "LBeadParley$Grid;", Cond.fieldLink RX2 188 "BeadParley" "signCount" "I", Cond.fieldLink RX2 51 "BeadParley" "signGrids" "[LBeadParley$Grid;", Cond.fieldLink RX2 54 "BeadParley" "signWorths" "[I", Cond.methodLink RX2 74 yX2_checkRange, Cond.static yX2_checkRange, Cond.code yX2_checkRange cX2_checkRange 3 none, Cond.classLink RX2 150 "java/lang/IllegalArgumentException", Cond.initialized "java/lang/IllegalArgumentException", Cond.instanceMethod yX1_copyFrom, Cond.initialized RX1, Cond.selects RX1 yX1_copyFrom yX1_copyFrom, Cond.code yX1_copyFrom cX1_copyFrom 2 none, Cond.fieldLink RX1 15 "BeadParley$Grid" "columns" "I", Cond.fieldLink RX1 19 "BeadParley$Grid" "rows" "I"]
def wsL_sign_r2 : List Cond := [Cond.fieldLink RX1 9 "BeadParley$Grid" "cells" "[I", Cond.methodLink RX1 28 arraycopyName, Cond.native arraycopyName, Cond.static arraycopyName, Cond.initialized "java/lang/System"]
def wsL_sign : List Cond := .codeWith yL_sign cL_sign 4 (some .int) [(0, 9, 12, 15), (0, 9, 15, 17)] :: ((wsL_sign_r1 ++ wsL_sign_r2) ++ wsX20 ++ wsX10 ++ (vx_atS RX2 83 "java/lang/IllegalStateException" ["java/lang/RuntimeException", "java/lang/Exception"]).filter goodWord ++ (vx_atS RX2 154 "java/lang/IllegalArgumentException" ["java/lang/RuntimeException", "java/lang/Exception"]).filter goodWord)
def wsL_stands_r1 : List Cond := [Cond.classLink RL 13 "java/lang/IndexOutOfBoundsException", Cond.methodLink RL 80 yX2_stands, Cond.instanceMethod yX2_stands, Cond.selects RX2 yX2_stands yX2_stands, Cond.initialized RX2, Cond.code yX2_stands cX2_stands 3 (some .int), Cond.classLink RX2 108 "java/lang/IndexOutOfBoundsException", Cond.initialized "java/lang/IndexOutOfBoundsException", Cond.fieldLink RX2 188 "BeadParley" "signCount" "I", Cond.fieldLink RX2 28 "BeadParley" "patternGrids" "[LBeadParley$Grid;", Cond.fieldLink RX2 51 "BeadParley" "signGrids" "[LBeadParley$Grid;", Cond.methodLink RX2 130 yX2_checkPattern, Cond.instanceMethod yX2_checkPattern, Cond.selects RX2 yX2_checkPattern yX2_checkPattern, Cond.code yX2_checkPattern cX2_checkPattern 2 none, Cond.fieldLink RX2 120 "BeadParley" "patternCount" "I", Cond.instanceMethod yX1_placesOf, Cond.initialized RX1, Cond.selects RX1 yX1_placesOf yX1_placesOf, Cond.code yX1_placesOf cX1_placesOf 5 (some .int), Cond.fieldLink RX1 19 "BeadParley$Grid" "rows" "I", Cond.fieldLink RX1 15 "BeadParley$Grid" "columns" "I", Cond.methodLink RX1 46 yX1_shows, Cond.instanceMethod yX1_shows]
def wsL_stands_r2 : List Cond := [Cond.selects RX1 yX1_shows yX1_shows, Cond.code yX1_shows cX1_shows 6 (some .boolean), Cond.methodLink RX1 42 yX1_colourAt, Cond.instanceMethod yX1_colourAt, Cond.selects RX1 yX1_colourAt yX1_colourAt, Cond.code yX1_colourAt cX1_colourAt 3 (some .int), Cond.fieldLink RX1 9 "BeadParley$Grid" "cells" "[I"]
def wsL_stands : List Cond := .codeWith yL_stands cL_stands 5 (some .int) [(0, 10, 13, 13)] :: ((wsL_stands_r1 ++ wsL_stands_r2) ++ wsX20 ++ wsX10 ++ (vx_atS RX2 112 "java/lang/IndexOutOfBoundsException" ["java/lang/RuntimeException", "java/lang/Exception"]).filter goodWord)
def wsL_story_r1 : List Cond := [Cond.classLink RL 13 "java/lang/IndexOutOfBoundsException", Cond.methodLink RL 83 yX2_story, Cond.instanceMethod yX2_story, Cond.selects RX2 yX2_story yX2_story, Cond.initialized RX2, Cond.code yX2_story cX2_story 2 (some .int), Cond.methodLink RX2 130 yX2_checkPattern, Cond.instanceMethod yX2_checkPattern, Cond.selects RX2 yX2_checkPattern yX2_checkPattern, Cond.code yX2_checkPattern cX2_checkPattern 2 none, Cond.classLink RX2 108 "java/lang/IndexOutOfBoundsException", Cond.initialized "java/lang/IndexOutOfBoundsException", Cond.fieldLink RX2 120 "BeadParley" "patternCount" "I", Cond.methodLink RX2 199 yX2_storyOf, Cond.instanceMethod yX2_storyOf, Cond.selects RX2 yX2_storyOf yX2_storyOf, Cond.code yX2_storyOf cX2_storyOf 4 (some .int), Cond.fieldLink RX2 188 "BeadParley" "signCount" "I", Cond.fieldLink RX2 54 "BeadParley" "signWorths" "[I", Cond.fieldLink RX2 28 "BeadParley" "patternGrids" "[LBeadParley$Grid;", Cond.fieldLink RX2 51 "BeadParley" "signGrids" "[LBeadParley$Grid;", Cond.instanceMethod yX1_placesOf, Cond.initialized RX1, Cond.selects RX1 yX1_placesOf yX1_placesOf]
def wsL_story_r2 : List Cond := [Cond.code yX1_placesOf cX1_placesOf 5 (some .int), Cond.fieldLink RX1 19 "BeadParley$Grid" "rows" "I", Cond.fieldLink RX1 15 "BeadParley$Grid" "columns" "I", Cond.methodLink RX1 46 yX1_shows, Cond.instanceMethod yX1_shows, Cond.selects RX1 yX1_shows yX1_shows, Cond.code yX1_shows cX1_shows 6 (some .boolean), Cond.methodLink RX1 42 yX1_colourAt, Cond.instanceMethod yX1_colourAt, Cond.selects RX1 yX1_colourAt yX1_colourAt, Cond.code yX1_colourAt cX1_colourAt 3 (some .int), Cond.fieldLink RX1 9 "BeadParley$Grid" "cells" "[I"]
def wsL_story : List Cond := .codeWith yL_story cL_story 4 (some .int) [(0, 9, 12, 13)] :: ((wsL_story_r1 ++ wsL_story_r2) ++ wsX20 ++ wsX10 ++ (vx_atS RX2 112 "java/lang/IndexOutOfBoundsException" ["java/lang/RuntimeException", "java/lang/Exception"]).filter goodWord)
def wsL_hear_r1 : List Cond := [Cond.classLink RL 13 "java/lang/IndexOutOfBoundsException", Cond.methodLink RL 86 yX2_hear, Cond.instanceMethod yX2_hear, Cond.selects RX2 yX2_hear yX2_hear, Cond.initialized RX2, Cond.code yX2_hear cX2_hear 3 (some .long), Cond.fieldLink RX2 57 "BeadParley" "heard" "[J", Cond.fieldLink RX2 35 "BeadParley" "beltPatterns" "[I", Cond.methodLink RX2 147 yX2_checkBelt, Cond.instanceMethod yX2_checkBelt, Cond.selects RX2 yX2_checkBelt yX2_checkBelt, Cond.code yX2_checkBelt cX2_checkBelt 2 none, Cond.classLink RX2 108 "java/lang/IndexOutOfBoundsException", Cond.initialized "java/lang/IndexOutOfBoundsException", Cond.methodLink RX2 88 yX2_isBelt, Cond.instanceMethod yX2_isBelt, Cond.selects RX2 yX2_isBelt yX2_isBelt, Cond.code yX2_isBelt cX2_isBelt 2 (some .boolean), Cond.methodLink RX2 67 yX2_checkPerson, Cond.static yX2_checkPerson, Cond.code yX2_checkPerson cX2_checkPerson 1 none, Cond.methodLink RX2 199 yX2_storyOf, Cond.instanceMethod yX2_storyOf, Cond.selects RX2 yX2_storyOf yX2_storyOf]
def wsL_hear_r2 : List Cond := [Cond.code yX2_storyOf cX2_storyOf 4 (some .int), Cond.fieldLink RX2 188 "BeadParley" "signCount" "I", Cond.fieldLink RX2 54 "BeadParley" "signWorths" "[I", Cond.fieldLink RX2 28 "BeadParley" "patternGrids" "[LBeadParley$Grid;", Cond.fieldLink RX2 51 "BeadParley" "signGrids" "[LBeadParley$Grid;", Cond.instanceMethod yX1_placesOf, Cond.initialized RX1, Cond.selects RX1 yX1_placesOf yX1_placesOf, Cond.code yX1_placesOf cX1_placesOf 5 (some .int), Cond.fieldLink RX1 19 "BeadParley$Grid" "rows" "I", Cond.fieldLink RX1 15 "BeadParley$Grid" "columns" "I", Cond.methodLink RX1 46 yX1_shows, Cond.instanceMethod yX1_shows, Cond.selects RX1 yX1_shows yX1_shows, Cond.code yX1_shows cX1_shows 6 (some .boolean), Cond.methodLink RX1 42 yX1_colourAt, Cond.instanceMethod yX1_colourAt, Cond.selects RX1 yX1_colourAt yX1_colourAt, Cond.code yX1_colourAt cX1_colourAt 3 (some .int), Cond.fieldLink RX1 9 "BeadParley$Grid" "cells" "[I"]
def wsL_hear : List Cond := .codeWith yL_hear cL_hear 5 (some .int) [(0, 9, 12, 13)] :: ((wsL_hear_r1 ++ wsL_hear_r2) ++ wsX20 ++ wsX10 ++ (vx_atS RX2 112 "java/lang/IndexOutOfBoundsException" ["java/lang/RuntimeException", "java/lang/Exception"]).filter goodWord)
def wsL_ranked : List Cond := .codeWith yL_ranked cL_ranked 4 (some .int) [(0, 9, 12, 13)] :: ([.classLink RL 13 "java/lang/IndexOutOfBoundsException", .methodLink RL 90 yX2_ranked, .instanceMethod yX2_ranked, .selects RX2 yX2_ranked yX2_ranked, .initialized RX2, .code yX2_ranked cX2_ranked 3 (some .int), .classLink RX2 108 "java/lang/IndexOutOfBoundsException", .initialized "java/lang/IndexOutOfBoundsException", .methodLink RX2 204 yX2_rankOf, .instanceMethod yX2_rankOf, .selects RX2 yX2_rankOf yX2_rankOf, .code yX2_rankOf cX2_rankOf 4 (some .int), .fieldLink RX2 57 "BeadParley" "heard" "[J"] ++ wsX20 ++ (vx_atS RX2 112 "java/lang/IndexOutOfBoundsException" ["java/lang/RuntimeException", "java/lang/Exception"]).filter goodWord)
def wsL_law0_r1 : List Cond := [Cond.classLink RL 8 RX2, Cond.instantiable RX2 15, Cond.initialized RX2, Cond.classLink RL 94 RX3, Cond.instantiable RX3 26, Cond.initialized RX3, Cond.arrayClass .long, Cond.methodLink RL 93 yX2_init, Cond.instanceMethod yX2_init, Cond.code yX2_init cX2_init 2 none, Cond.methodLink RX2 1 objectInit, Cond.instanceMethod objectInit, Cond.code objectInit ⟨#[0xb1]⟩ 1 none, Cond.classLink RX2 9 "[[I", Cond.arrayClass .int, Cond.fieldLink RX2 11 "BeadParley" "hands" "[[I", Cond.fieldLink RX2 14 "BeadParley" "stall" "[I", Cond.fieldLink RX2 18 "BeadParley" "broughtSoFar" "[I", Cond.classLink RX2 21 RX1, Cond.instantiable RX1 3, Cond.initialized RX1, Cond.fieldLink RX2 24 "BeadParley" "draftGrid" "LBeadParley$Grid;", Cond.fieldLink RX2 28 "BeadParley" "patternGrids" "[LBeadParley$Grid;", Cond.fieldLink RX2 32 "BeadParley" "patternAuthors" "[I"]
def wsL_law0_r2 : List Cond := [Cond.fieldLink RX2 35 "BeadParley" "beltPatterns" "[I", Cond.fieldLink RX2 38 "BeadParley" "beltOwners" "[I", Cond.fieldLink RX2 41 "BeadParley" "creditsOf" "[I", Cond.classLink RX2 44 RX0, Cond.instantiable RX0 6, Cond.initialized RX0, Cond.fieldLink RX2 47 "BeadParley" "barter" "LBeadParley$Barter;", Cond.fieldLink RX2 51 "BeadParley" "signGrids" "[LBeadParley$Grid;", Cond.fieldLink RX2 54 "BeadParley" "signWorths" "[I", Cond.fieldLink RX2 57 "BeadParley" "heard" "[J", Cond.instanceMethod yX1_init, Cond.code yX1_init cX1_init 1 none, Cond.methodLink RX1 3 objectInit, Cond.fieldLink RX1 9 "BeadParley$Grid" "cells" "[I", Cond.fieldLink RX1 15 "BeadParley$Grid" "columns" "I", Cond.fieldLink RX1 19 "BeadParley$Grid" "rows" "I", Cond.instanceMethod yX0_init, Cond.code yX0_init cX0_init 1 none, Cond.methodLink RX0 3 objectInit, Cond.fieldLink RX0 9 "BeadParley$Barter" "gives" "[I", Cond.fieldLink RX0 15 "BeadParley$Barter" "wants" "[I", Cond.arrayClass .boolean, Cond.fieldLink RX0 18 "BeadParley$Barter" "ready" "[Z", Cond.fieldLink RX0 22 "BeadParley$Barter" "row" "[I"]
def wsL_law0_r3 : List Cond := [Cond.fieldLink RX0 25 "BeadParley$Barter" "best" "[I", Cond.methodLink RX0 28 yJ7_fill_53178, Cond.static yJ7_fill_53178, Cond.initialized RJ7, Cond.code yJ7_fill_53178 cJ7_fill_53178 4 none, Cond.methodLink RX2 61 yJ7_fill_53178, Cond.methodLink RL 96 yX3_init, Cond.instanceMethod yX3_init, Cond.code yX3_init cX3_init 2 none, Cond.methodLink RX3 1 objectInit, Cond.fieldLink RX3 7 "BeadParleyModel" "hands" "[I", Cond.fieldLink RX3 13 "BeadParleyModel" "stall" "[I", Cond.fieldLink RX3 16 "BeadParleyModel" "brought" "[I", Cond.fieldLink RX3 19 "BeadParleyModel" "columns" "I", Cond.fieldLink RX3 23 "BeadParleyModel" "rows" "I", Cond.fieldLink RX3 26 "BeadParleyModel" "draft" "[I", Cond.fieldLink RX3 29 "BeadParleyModel" "patternColumns" "[I", Cond.fieldLink RX3 32 "BeadParleyModel" "patternRows" "[I", Cond.fieldLink RX3 35 "BeadParleyModel" "cells" "[I", Cond.fieldLink RX3 38 "BeadParleyModel" "author" "[I", Cond.fieldLink RX3 41 "BeadParleyModel" "origin" "[I", Cond.fieldLink RX3 44 "BeadParleyModel" "beltPattern" "[I", Cond.fieldLink RX3 47 "BeadParleyModel" "owner" "[I", Cond.fieldLink RX3 50 "BeadParleyModel" "credits" "[I"]
def wsL_law0_r4 : List Cond := [Cond.fieldLink RX3 53 "BeadParleyModel" "gives" "[I", Cond.fieldLink RX3 56 "BeadParleyModel" "wants" "[I", Cond.fieldLink RX3 59 "BeadParleyModel" "chain" "[I", Cond.fieldLink RX3 62 "BeadParleyModel" "tried" "[I", Cond.fieldLink RX3 65 "BeadParleyModel" "signColumns" "[I", Cond.fieldLink RX3 68 "BeadParleyModel" "signRows" "[I", Cond.fieldLink RX3 71 "BeadParleyModel" "signCells" "[I", Cond.fieldLink RX3 74 "BeadParleyModel" "worth" "[I", Cond.fieldLink RX3 77 "BeadParleyModel" "heard" "[J", Cond.methodLink RL 97 yL_bring, Cond.static yL_bring, Cond.initialized RL, Cond.codeWith yL_bring cL_bring 6 (some .int) [(0, 12, 15, 13), (0, 12, 19, 15), (0, 12, 23, 17)], Cond.classLink RL 13 "java/lang/IndexOutOfBoundsException", Cond.classLink RL 15 "java/lang/IllegalArgumentException", Cond.classLink RL 17 "java/lang/IllegalStateException", Cond.methodLink RL 7 yX2_bring, Cond.instanceMethod yX2_bring, Cond.selects RX2 yX2_bring yX2_bring, Cond.code yX2_bring cX2_bring 5 (some .int), Cond.classLink RX2 79 "java/lang/IllegalStateException", Cond.initialized "java/lang/IllegalStateException", Cond.constant RX2 78 (100000), Cond.methodLink RX2 67 yX2_checkPerson]
def wsL_law0_r5 : List Cond := [Cond.static yX2_checkPerson, Cond.code yX2_checkPerson cX2_checkPerson 1 none, Cond.classLink RX2 108 "java/lang/IndexOutOfBoundsException", Cond.initialized "java/lang/IndexOutOfBoundsException", Cond.methodLink RX2 71 yX2_checkColour, Cond.static yX2_checkColour, Cond.code yX2_checkColour cX2_checkColour 1 none, Cond.methodLink RX2 74 yX2_checkRange, Cond.static yX2_checkRange, Cond.code yX2_checkRange cX2_checkRange 3 none, Cond.classLink RX2 150 "java/lang/IllegalArgumentException", Cond.initialized "java/lang/IllegalArgumentException", Cond.methodLink RL 102 yX3_bring, Cond.instanceMethod yX3_bring, Cond.selects RX3 yX3_bring yX3_bring, Cond.code yX3_bring cX3_bring 5 (some .int), Cond.constant RX3 98 (100000), Cond.fieldLink RX3 81 "BeadParleyModel" "thrown" "I", Cond.methodLink RX3 91 yX3_isPerson, Cond.static yX3_isPerson, Cond.code yX3_isPerson cX3_isPerson 1 (some .boolean), Cond.methodLink RX3 84 yX3_isIn, Cond.static yX3_isIn, Cond.code yX3_isIn cX3_isIn 3 (some .boolean)]
def wsL_law0_r6 : List Cond := [Cond.methodLink RX3 95 yX3_isColour, Cond.static yX3_isColour, Cond.code yX3_isColour cX3_isColour 1 (some .boolean), Cond.methodLink RL 103 yX3_thrown, Cond.instanceMethod yX3_thrown, Cond.selects RX3 yX3_thrown yX3_thrown, Cond.code yX3_thrown cX3_thrown 1 (some .int), Cond.methodLink RL 107 yL_lay, Cond.static yL_lay, Cond.codeWith yL_lay cL_lay 6 (some .int) [(0, 12, 15, 13), (0, 12, 19, 15), (0, 12, 23, 17)], Cond.methodLink RL 19 yX2_lay, Cond.instanceMethod yX2_lay, Cond.selects RX2 yX2_lay yX2_lay, Cond.code yX2_lay cX2_lay 6 (some .int), Cond.methodLink RL 109 yX3_lay, Cond.instanceMethod yX3_lay, Cond.selects RX3 yX3_lay yX3_lay, Cond.code yX3_lay cX3_lay 5 (some .int), Cond.methodLink RL 110 yL_hand, Cond.static yL_hand, Cond.codeWith yL_hand cL_hand 5 (some .int) [(0, 10, 13, 13)], Cond.methodLink RL 22 yX2_hand, Cond.instanceMethod yX2_hand, Cond.selects RX2 yX2_hand yX2_hand]
def wsL_law0_r7 : List Cond := [Cond.code yX2_hand cX2_hand 3 (some .int), Cond.methodLink RL 113 yX3_hand, Cond.instanceMethod yX3_hand, Cond.selects RX3 yX3_hand yX3_hand, Cond.code yX3_hand cX3_hand 3 (some .int), Cond.methodLink RL 114 yL_beads, Cond.static yL_beads, Cond.codeWith yL_beads cL_beads 4 (some .int) [(0, 9, 12, 13)], Cond.methodLink RL 26 yX2_beads, Cond.instanceMethod yX2_beads, Cond.selects RX2 yX2_beads yX2_beads, Cond.code yX2_beads cX2_beads 4 (some .int), Cond.methodLink RX2 88 yX2_isBelt, Cond.instanceMethod yX2_isBelt, Cond.selects RX2 yX2_isBelt yX2_isBelt, Cond.code yX2_isBelt cX2_isBelt 2 (some .boolean), Cond.instanceMethod yX1_cellsOf, Cond.selects RX1 yX1_cellsOf yX1_cellsOf, Cond.code yX1_cellsOf cX1_cellsOf 4 (some .int), Cond.methodLink RX1 34 yX1_size, Cond.instanceMethod yX1_size, Cond.selects RX1 yX1_size yX1_size, Cond.code yX1_size cX1_size 1 (some .int), Cond.methodLink RL 117 yX3_beads]
def wsL_law0_r8 : List Cond := [Cond.instanceMethod yX3_beads, Cond.selects RX3 yX3_beads yX3_beads, Cond.code yX3_beads cX3_beads 4 (some .int), Cond.methodLink RX3 103 yX3_isBelt, Cond.instanceMethod yX3_isBelt, Cond.selects RX3 yX3_isBelt yX3_isBelt, Cond.code yX3_isBelt cX3_isBelt 2 (some .boolean), Cond.methodLink RX3 106 yX3_needsOf, Cond.instanceMethod yX3_needsOf, Cond.selects RX3 yX3_needsOf yX3_needsOf, Cond.code yX3_needsOf cX3_needsOf 5 (some .int), Cond.methodLink RX3 99 yX3_at, Cond.instanceMethod yX3_at, Cond.selects RX3 yX3_at yX3_at, Cond.code yX3_at cX3_at 4 (some .int), Cond.methodLink RL 118 yL_brought, Cond.static yL_brought, Cond.codeWith yL_brought cL_brought 4 (some .int) [(0, 9, 12, 13)], Cond.methodLink RL 30 yX2_brought, Cond.instanceMethod yX2_brought, Cond.selects RX2 yX2_brought yX2_brought, Cond.code yX2_brought cX2_brought 2 (some .int), Cond.methodLink RL 120 yX3_brought, Cond.instanceMethod yX3_brought]
def wsL_law0_r9 : List Cond := [Cond.selects RX3 yX3_brought yX3_brought, Cond.code yX3_brought cX3_brought 2 (some .int), Cond.methodLink RL 121 yL_draft, Cond.static yL_draft, Cond.codeWith yL_draft cL_draft 5 (some .int) [(0, 10, 13, 15)], Cond.methodLink RL 33 yX2_draft, Cond.instanceMethod yX2_draft, Cond.selects RX2 yX2_draft yX2_draft, Cond.code yX2_draft cX2_draft 3 (some .int), Cond.instanceMethod yX1_begin, Cond.selects RX1 yX1_begin yX1_begin, Cond.code yX1_begin cX1_begin 3 none, Cond.methodLink RX1 22 yJ7_fill_53178, Cond.methodLink RL 123 yX3_draft, Cond.instanceMethod yX3_draft, Cond.selects RX3 yX3_draft yX3_draft, Cond.code yX3_draft cX3_draft 4 (some .int), Cond.methodLink RL 124 yL_bead, Cond.static yL_bead, Cond.codeWith yL_bead cL_bead 6 (some .int) [(0, 12, 15, 13)], Cond.methodLink RL 36 yX2_bead, Cond.instanceMethod yX2_bead, Cond.selects RX2 yX2_bead yX2_bead, Cond.code yX2_bead cX2_bead 5 (some .int)]
def wsL_law0_r10 : List Cond := [Cond.instanceMethod yX1_hasCell, Cond.selects RX1 yX1_hasCell yX1_hasCell, Cond.code yX1_hasCell cX1_hasCell 3 (some .boolean), Cond.instanceMethod yX1_colourAt, Cond.selects RX1 yX1_colourAt yX1_colourAt, Cond.code yX1_colourAt cX1_colourAt 3 (some .int), Cond.instanceMethod yX1_paint, Cond.selects RX1 yX1_paint yX1_paint, Cond.code yX1_paint cX1_paint 4 none, Cond.methodLink RL 126 yX3_bead, Cond.instanceMethod yX3_bead, Cond.selects RX3 yX3_bead yX3_bead, Cond.code yX3_bead cX3_bead 6 (some .int), Cond.methodLink RL 127 yL_pattern, Cond.static yL_pattern, Cond.codeWith yL_pattern cL_pattern 4 (some .int) [(0, 9, 12, 13), (0, 9, 15, 17)], Cond.methodLink RL 39 yX2_pattern, Cond.instanceMethod yX2_pattern, Cond.selects RX2 yX2_pattern yX2_pattern, Cond.code yX2_pattern cX2_pattern 3 (some .int), Cond.fieldLink RX2 120 "BeadParley" "patternCount" "I", Cond.instanceMethod yX1_copyFrom, Cond.selects RX1 yX1_copyFrom yX1_copyFrom, Cond.code yX1_copyFrom cX1_copyFrom 2 none]
def wsL_law0_r11 : List Cond := [Cond.methodLink RX1 28 arraycopyName, Cond.native arraycopyName, Cond.static arraycopyName, Cond.initialized "java/lang/System", Cond.methodLink RL 129 yX3_pattern, Cond.instanceMethod yX3_pattern, Cond.selects RX3 yX3_pattern yX3_pattern, Cond.code yX3_pattern cX3_pattern 5 (some .int), Cond.fieldLink RX3 88 "BeadParleyModel" "patterns" "I", Cond.methodLink RX3 114 yX3_isImage, Cond.instanceMethod yX3_isImage, Cond.selects RX3 yX3_isImage yX3_isImage, Cond.code yX3_isImage cX3_isImage 9 (some .boolean), Cond.methodLink RX3 110 yX3_image, Cond.instanceMethod yX3_image, Cond.selects RX3 yX3_image yX3_image, Cond.code yX3_image cX3_image 10 (some .int), Cond.methodLink RL 130 yX2_patterns, Cond.instanceMethod yX2_patterns, Cond.selects RX2 yX2_patterns yX2_patterns, Cond.code yX2_patterns cX2_patterns 1 (some .int), Cond.methodLink RL 133 yX3_patterns, Cond.instanceMethod yX3_patterns, Cond.selects RX3 yX3_patterns yX3_patterns]
def wsL_law0_r12 : List Cond := [Cond.code yX3_patterns cX3_patterns 1 (some .int), Cond.methodLink RL 134 yL_symmetries, Cond.static yL_symmetries, Cond.codeWith yL_symmetries cL_symmetries 4 (some .int) [(0, 9, 12, 13)], Cond.methodLink RL 42 yX2_symmetries, Cond.instanceMethod yX2_symmetries, Cond.selects RX2 yX2_symmetries yX2_symmetries, Cond.code yX2_symmetries cX2_symmetries 3 (some .int), Cond.methodLink RX2 130 yX2_checkPattern, Cond.instanceMethod yX2_checkPattern, Cond.selects RX2 yX2_checkPattern yX2_checkPattern, Cond.code yX2_checkPattern cX2_checkPattern 2 none, Cond.instanceMethod yX1_hasImage, Cond.selects RX1 yX1_hasImage yX1_hasImage, Cond.code yX1_hasImage cX1_hasImage 6 (some .boolean), Cond.methodLink RX1 38 yX1_colourInImage, Cond.instanceMethod yX1_colourInImage, Cond.selects RX1 yX1_colourInImage yX1_colourInImage, Cond.code yX1_colourInImage cX1_colourInImage 6 (some .int), Cond.methodLink RX1 42 yX1_colourAt, Cond.methodLink RL 136 yX3_symmetries, Cond.instanceMethod yX3_symmetries, Cond.selects RX3 yX3_symmetries yX3_symmetries, Cond.code yX3_symmetries cX3_symmetries 3 (some .int)]
def wsL_law0_r13 : List Cond := [Cond.methodLink RX3 121 yX3_asks, Cond.instanceMethod yX3_asks, Cond.selects RX3 yX3_asks yX3_asks, Cond.code yX3_asks cX3_asks 2 (some .boolean), Cond.methodLink RX3 118 yX3_isPattern, Cond.instanceMethod yX3_isPattern, Cond.selects RX3 yX3_isPattern yX3_isPattern, Cond.code yX3_isPattern cX3_isPattern 2 (some .boolean), Cond.methodLink RL 137 yL_origin, Cond.static yL_origin, Cond.codeWith yL_origin cL_origin 4 (some .int) [(0, 9, 12, 13)], Cond.methodLink RL 45 yX2_origin, Cond.instanceMethod yX2_origin, Cond.selects RX2 yX2_origin yX2_origin, Cond.code yX2_origin cX2_origin 2 (some .int), Cond.methodLink RX2 137 yX2_originOf, Cond.instanceMethod yX2_originOf, Cond.selects RX2 yX2_originOf yX2_originOf, Cond.code yX2_originOf cX2_originOf 4 (some .int), Cond.methodLink RL 139 yX3_origin, Cond.instanceMethod yX3_origin, Cond.selects RX3 yX3_origin yX3_origin, Cond.code yX3_origin cX3_origin 2 (some .int), Cond.methodLink RL 140 yL_needs]
def wsL_law0_r14 : List Cond := [Cond.static yL_needs, Cond.codeWith yL_needs cL_needs 5 (some .int) [(0, 10, 13, 13)], Cond.methodLink RL 48 yX2_needs, Cond.instanceMethod yX2_needs, Cond.selects RX2 yX2_needs yX2_needs, Cond.code yX2_needs cX2_needs 3 (some .int), Cond.methodLink RL 142 yX3_needs, Cond.instanceMethod yX3_needs, Cond.selects RX3 yX3_needs yX3_needs, Cond.code yX3_needs cX3_needs 3 (some .int), Cond.methodLink RL 143 yL_weave, Cond.static yL_weave, Cond.codeWith yL_weave cL_weave 5 (some .int) [(0, 10, 13, 13), (0, 10, 17, 17)], Cond.methodLink RL 51 yX2_weave, Cond.instanceMethod yX2_weave, Cond.selects RX2 yX2_weave yX2_weave, Cond.code yX2_weave cX2_weave 6 (some .int), Cond.methodLink RX2 140 yX2_lowestFreeBelt, Cond.instanceMethod yX2_lowestFreeBelt, Cond.selects RX2 yX2_lowestFreeBelt yX2_lowestFreeBelt, Cond.code yX2_lowestFreeBelt cX2_lowestFreeBelt 2 (some .int), Cond.methodLink RL 145 yX3_weave, Cond.instanceMethod yX3_weave, Cond.selects RX3 yX3_weave yX3_weave]
def wsL_law0_r15 : List Cond := [Cond.code yX3_weave cX3_weave 6 (some .int), Cond.methodLink RX3 124 yX3_freeBelt, Cond.instanceMethod yX3_freeBelt, Cond.selects RX3 yX3_freeBelt yX3_freeBelt, Cond.code yX3_freeBelt cX3_freeBelt 2 (some .int), Cond.methodLink RL 146 yL_apart, Cond.static yL_apart, Cond.codeWith yL_apart cL_apart 4 (some .int) [(0, 9, 12, 13), (0, 9, 15, 17)], Cond.methodLink RL 54 yX2_apart, Cond.instanceMethod yX2_apart, Cond.selects RX2 yX2_apart yX2_apart, Cond.code yX2_apart cX2_apart 5 (some .int), Cond.methodLink RX2 147 yX2_checkBelt, Cond.instanceMethod yX2_checkBelt, Cond.selects RX2 yX2_checkBelt yX2_checkBelt, Cond.code yX2_checkBelt cX2_checkBelt 2 none, Cond.methodLink RL 148 yX3_apart, Cond.instanceMethod yX3_apart, Cond.selects RX3 yX3_apart yX3_apart, Cond.code yX3_apart cX3_apart 5 (some .int), Cond.methodLink RL 149 yL_give, Cond.static yL_give, Cond.codeWith yL_give cL_give 5 (some .int) [(0, 10, 13, 13)], Cond.methodLink RL 57 yX2_give]
def wsL_law0_r16 : List Cond := [Cond.instanceMethod yX2_give, Cond.selects RX2 yX2_give yX2_give, Cond.code yX2_give cX2_give 4 (some .int), Cond.methodLink RL 151 yX3_give, Cond.instanceMethod yX3_give, Cond.selects RX3 yX3_give yX3_give, Cond.code yX3_give cX3_give 4 (some .int), Cond.methodLink RL 152 yL_owner, Cond.static yL_owner, Cond.codeWith yL_owner cL_owner 4 (some .int) [(0, 9, 12, 13)], Cond.methodLink RL 60 yX2_owner, Cond.instanceMethod yX2_owner, Cond.selects RX2 yX2_owner yX2_owner, Cond.code yX2_owner cX2_owner 2 (some .int), Cond.methodLink RL 154 yX3_owner, Cond.instanceMethod yX3_owner, Cond.selects RX3 yX3_owner yX3_owner, Cond.code yX3_owner cX3_owner 2 (some .int), Cond.methodLink RL 155 yL_credits, Cond.static yL_credits, Cond.codeWith yL_credits cL_credits 4 (some .int) [(0, 9, 12, 13)], Cond.methodLink RL 63 yX2_credits, Cond.instanceMethod yX2_credits, Cond.selects RX2 yX2_credits yX2_credits]
def wsL_law0_r17 : List Cond := [Cond.code yX2_credits cX2_credits 2 (some .int), Cond.methodLink RL 157 yX3_credits, Cond.instanceMethod yX3_credits, Cond.selects RX3 yX3_credits yX3_credits, Cond.code yX3_credits cX3_credits 2 (some .int), Cond.methodLink RL 158 yL_wish, Cond.static yL_wish, Cond.codeWith yL_wish cL_wish 6 (some .int) [(0, 19, 22, 13), (0, 19, 26, 15)], Cond.methodLink RL 66 yX2_wish, Cond.instanceMethod yX2_wish, Cond.selects RX2 yX2_wish yX2_wish, Cond.code yX2_wish cX2_wish 5 (some .boolean), Cond.instanceMethod yX0_hasWish, Cond.selects RX0 yX0_hasWish yX0_hasWish, Cond.code yX0_hasWish cX0_hasWish 2 (some .boolean), Cond.instanceMethod yX0_setWish, Cond.selects RX0 yX0_setWish yX0_setWish, Cond.code yX0_setWish cX0_setWish 4 none, Cond.methodLink RL 160 yX3_wish, Cond.instanceMethod yX3_wish, Cond.selects RX3 yX3_wish yX3_wish, Cond.code yX3_wish cX3_wish 5 (some .boolean), Cond.methodLink RL 161 yL_unwish, Cond.static yL_unwish]
def wsL_law0_r18 : List Cond := [Cond.codeWith yL_unwish cL_unwish 4 (some .int) [(0, 16, 19, 13)], Cond.methodLink RL 70 yX2_unwish, Cond.instanceMethod yX2_unwish, Cond.selects RX2 yX2_unwish yX2_unwish, Cond.code yX2_unwish cX2_unwish 3 (some .boolean), Cond.methodLink RL 163 yX3_unwish, Cond.instanceMethod yX3_unwish, Cond.selects RX3 yX3_unwish yX3_unwish, Cond.code yX3_unwish cX3_unwish 3 (some .boolean), Cond.methodLink RL 164 yX2_chain, Cond.instanceMethod yX2_chain, Cond.selects RX2 yX2_chain yX2_chain, Cond.code yX2_chain cX2_chain 1 (some .int), Cond.instanceMethod yX0_findBest, Cond.selects RX0 yX0_findBest yX0_findBest, Cond.code yX0_findBest cX0_findBest 3 none, Cond.fieldLink RX0 42 "BeadParley$Barter" "bestLength" "I", Cond.methodLink RX0 38 yX0_markReady, Cond.instanceMethod yX0_markReady, Cond.selects RX0 yX0_markReady yX0_markReady, Cond.code yX0_markReady cX0_markReady 3 none, Cond.methodLink RX0 34 yX0_hasWish, Cond.methodLink RX0 46 yX0_extend, Cond.static yX0_extend]
def wsL_law0_r19 : List Cond := [Cond.code yX0_extend cX0_extend 5 none, Cond.methodLink RX0 54 arraycopyName, Cond.methodLink RX0 50 yX0_getsFrom, Cond.instanceMethod yX0_getsFrom, Cond.selects RX0 yX0_getsFrom yX0_getsFrom, Cond.code yX0_getsFrom cX0_getsFrom 3 (some .boolean), Cond.methodLink RX0 60 yX0_isInRow, Cond.instanceMethod yX0_isInRow, Cond.selects RX0 yX0_isInRow yX0_isInRow, Cond.code yX0_isInRow cX0_isInRow 4 (some .boolean), Cond.methodLink RL 167 yX3_chain, Cond.instanceMethod yX3_chain, Cond.selects RX3 yX3_chain yX3_chain, Cond.code yX3_chain cX3_chain 1 (some .int), Cond.methodLink RX3 134 yX3_finds, Cond.instanceMethod yX3_finds, Cond.selects RX3 yX3_finds yX3_finds, Cond.code yX3_finds cX3_finds 4 (some .int), Cond.methodLink RX3 131 yX3_isRow, Cond.instanceMethod yX3_isRow, Cond.selects RX3 yX3_isRow yX3_isRow, Cond.code yX3_isRow cX3_isRow 5 (some .boolean), Cond.methodLink RX3 128 yX3_canGive, Cond.instanceMethod yX3_canGive]
def wsL_law0_r20 : List Cond := [Cond.selects RX3 yX3_canGive yX3_canGive, Cond.code yX3_canGive cX3_canGive 2 (some .boolean), Cond.methodLink RL 168 yX2_chainByOrders, Cond.instanceMethod yX2_chainByOrders, Cond.selects RX2 yX2_chainByOrders yX2_chainByOrders, Cond.code yX2_chainByOrders cX2_chainByOrders 1 (some .int), Cond.instanceMethod yX0_longestByOrders, Cond.selects RX0 yX0_longestByOrders yX0_longestByOrders, Cond.code yX0_longestByOrders cX0_longestByOrders 6 (some .int), Cond.methodLink RX0 67 Lib.Math.max.name, Cond.static Lib.Math.max.name, Cond.initialized "java/lang/Math", Cond.code Lib.Math.max.name Lib.Math.max.code 2 (some .int), Cond.methodLink RX0 63 yX0_longestAtStartOfRow, Cond.instanceMethod yX0_longestAtStartOfRow, Cond.selects RX0 yX0_longestAtStartOfRow yX0_longestAtStartOfRow, Cond.code yX0_longestAtStartOfRow cX0_longestAtStartOfRow 4 (some .int), Cond.methodLink RX0 73 yX0_nextOrder, Cond.instanceMethod yX0_nextOrder, Cond.selects RX0 yX0_nextOrder yX0_nextOrder, Cond.code yX0_nextOrder cX0_nextOrder 6 (some .boolean), Cond.methodLink RX0 76 yX0_swap, Cond.instanceMethod yX0_swap, Cond.selects RX0 yX0_swap yX0_swap]
def wsL_law0_r21 : List Cond := [Cond.code yX0_swap cX0_swap 4 none, Cond.methodLink RL 171 yX3_chainByOrders, Cond.instanceMethod yX3_chainByOrders, Cond.selects RX3 yX3_chainByOrders yX3_chainByOrders, Cond.code yX3_chainByOrders cX3_chainByOrders 1 (some .int), Cond.methodLink RL 172 yL_chainAt, Cond.static yL_chainAt, Cond.codeWith yL_chainAt cL_chainAt 4 (some .int) [(0, 9, 12, 13)], Cond.methodLink RL 74 yX2_chainAt, Cond.instanceMethod yX2_chainAt, Cond.selects RX2 yX2_chainAt yX2_chainAt, Cond.code yX2_chainAt cX2_chainAt 2 (some .int), Cond.methodLink RL 174 yX3_chainAt, Cond.instanceMethod yX3_chainAt, Cond.selects RX3 yX3_chainAt yX3_chainAt, Cond.code yX3_chainAt cX3_chainAt 2 (some .int), Cond.methodLink RL 175 yX2_fair, Cond.instanceMethod yX2_fair, Cond.selects RX2 yX2_fair yX2_fair, Cond.code yX2_fair cX2_fair 1 (some .int), Cond.instanceMethod yX0_exchange, Cond.selects RX0 yX0_exchange yX0_exchange, Cond.code yX0_exchange cX0_exchange 5 none, Cond.methodLink RL 178 yX3_fair]
def wsL_law0_r22 : List Cond := [Cond.instanceMethod yX3_fair, Cond.selects RX3 yX3_fair yX3_fair, Cond.code yX3_fair cX3_fair 4 (some .int), Cond.methodLink RL 179 yL_sign, Cond.static yL_sign, Cond.codeWith yL_sign cL_sign 4 (some .int) [(0, 9, 12, 15), (0, 9, 15, 17)], Cond.methodLink RL 77 yX2_sign, Cond.instanceMethod yX2_sign, Cond.selects RX2 yX2_sign yX2_sign, Cond.code yX2_sign cX2_sign 3 (some .int), Cond.fieldLink RX2 188 "BeadParley" "signCount" "I", Cond.methodLink RL 181 yX3_sign, Cond.instanceMethod yX3_sign, Cond.selects RX3 yX3_sign yX3_sign, Cond.code yX3_sign cX3_sign 3 (some .int), Cond.fieldLink RX3 137 "BeadParleyModel" "signs" "I", Cond.methodLink RL 182 yL_stands, Cond.static yL_stands, Cond.codeWith yL_stands cL_stands 5 (some .int) [(0, 10, 13, 13)], Cond.methodLink RL 80 yX2_stands, Cond.instanceMethod yX2_stands, Cond.selects RX2 yX2_stands yX2_stands, Cond.code yX2_stands cX2_stands 3 (some .int), Cond.instanceMethod yX1_placesOf]
def wsL_law0_r23 : List Cond := [Cond.selects RX1 yX1_placesOf yX1_placesOf, Cond.code yX1_placesOf cX1_placesOf 5 (some .int), Cond.methodLink RX1 46 yX1_shows, Cond.instanceMethod yX1_shows, Cond.selects RX1 yX1_shows yX1_shows, Cond.code yX1_shows cX1_shows 6 (some .boolean), Cond.methodLink RL 184 yX3_stands, Cond.instanceMethod yX3_stands, Cond.selects RX3 yX3_stands yX3_stands, Cond.code yX3_stands cX3_stands 3 (some .int), Cond.methodLink RX3 144 yX3_standsIn, Cond.instanceMethod yX3_standsIn, Cond.selects RX3 yX3_standsIn yX3_standsIn, Cond.code yX3_standsIn cX3_standsIn 5 (some .int), Cond.methodLink RX3 140 yX3_standsAt, Cond.instanceMethod yX3_standsAt, Cond.selects RX3 yX3_standsAt yX3_standsAt, Cond.code yX3_standsAt cX3_standsAt 8 (some .boolean), Cond.methodLink RL 185 yL_story, Cond.static yL_story, Cond.codeWith yL_story cL_story 4 (some .int) [(0, 9, 12, 13)], Cond.methodLink RL 83 yX2_story, Cond.instanceMethod yX2_story, Cond.selects RX2 yX2_story yX2_story]
def wsL_law0_r24 : List Cond := [Cond.code yX2_story cX2_story 2 (some .int), Cond.methodLink RX2 199 yX2_storyOf, Cond.instanceMethod yX2_storyOf, Cond.selects RX2 yX2_storyOf yX2_storyOf, Cond.code yX2_storyOf cX2_storyOf 4 (some .int), Cond.methodLink RL 187 yX3_story, Cond.instanceMethod yX3_story, Cond.selects RX3 yX3_story yX3_story, Cond.code yX3_story cX3_story 2 (some .int), Cond.methodLink RX3 147 yX3_storyOf, Cond.instanceMethod yX3_storyOf, Cond.selects RX3 yX3_storyOf yX3_storyOf, Cond.code yX3_storyOf cX3_storyOf 4 (some .int), Cond.methodLink RL 188 yL_hear, Cond.static yL_hear, Cond.codeWith yL_hear cL_hear 5 (some .int) [(0, 9, 12, 13)], Cond.methodLink RL 86 yX2_hear, Cond.instanceMethod yX2_hear, Cond.selects RX2 yX2_hear yX2_hear, Cond.code yX2_hear cX2_hear 3 (some .long), Cond.methodLink RL 190 yX3_hear, Cond.instanceMethod yX3_hear, Cond.selects RX3 yX3_hear yX3_hear, Cond.code yX3_hear cX3_hear 3 (some .long)]
def wsL_law0_r25 : List Cond := [Cond.methodLink RL 191 yL_ranked, Cond.static yL_ranked, Cond.codeWith yL_ranked cL_ranked 4 (some .int) [(0, 9, 12, 13)], Cond.methodLink RL 90 yX2_ranked, Cond.instanceMethod yX2_ranked, Cond.selects RX2 yX2_ranked yX2_ranked, Cond.code yX2_ranked cX2_ranked 3 (some .int), Cond.methodLink RX2 204 yX2_rankOf, Cond.instanceMethod yX2_rankOf, Cond.selects RX2 yX2_rankOf yX2_rankOf, Cond.code yX2_rankOf cX2_rankOf 4 (some .int), Cond.methodLink RL 193 yX3_ranked, Cond.instanceMethod yX3_ranked, Cond.selects RX3 yX3_ranked yX3_ranked, Cond.code yX3_ranked cX3_ranked 6 (some .int)]
def wsL_law0 : List Cond := (wsL_law0_r1 ++ (wsL_law0_r2 ++ (wsL_law0_r3 ++ (wsL_law0_r4 ++ (wsL_law0_r5 ++ (wsL_law0_r6 ++ (wsL_law0_r7 ++ (wsL_law0_r8 ++ (wsL_law0_r9 ++ (wsL_law0_r10 ++ (wsL_law0_r11 ++ (wsL_law0_r12 ++ (wsL_law0_r13 ++ (wsL_law0_r14 ++ (wsL_law0_r15 ++ (wsL_law0_r16 ++ (wsL_law0_r17 ++ (wsL_law0_r18 ++ (wsL_law0_r19 ++ (wsL_law0_r20 ++ (wsL_law0_r21 ++ (wsL_law0_r22 ++ (wsL_law0_r23 ++ (wsL_law0_r24 ++ wsL_law0_r25)))))))))))))))))))))))) ++ wsX20 ++ wsX30 ++ wsX10 ++ wsX00 ++ ([] : List Cond)
def wsL_law : List Cond := wsL_law0 ++ (vx_atS RX2 83 "java/lang/IllegalStateException" ["java/lang/RuntimeException", "java/lang/Exception"]).filter goodWord ++ (vx_atS RX2 112 "java/lang/IndexOutOfBoundsException" ["java/lang/RuntimeException", "java/lang/Exception"]).filter goodWord ++ (vx_atS RX2 154 "java/lang/IllegalArgumentException" ["java/lang/RuntimeException", "java/lang/Exception"]).filter goodWord
set_option maxRecDepth 20000 in
theorem wsL_law0_r1_g : GoodIn lw_tbl wsL_law0_r1 := goodIn_r _ [58, 59, 45, 608, 609, 49, 166, 60, 61, 62, 63, 64, 65, 66, 86, 120, 121, 122, 68, 69, 46, 123, 124, 125] (by decide +kernel) (by decide +kernel)
theorem wsL_law0_r2_g : GoodIn lw_tbl wsL_law0_r2 := goodIn_r _ [127, 128, 129, 88, 89, 47, 130, 131, 132, 134, 71, 72, 73, 74, 75, 77, 91, 92, 93, 97, 98, 118, 99, 100] (by decide +kernel) (by decide +kernel)
theorem wsL_law0_r3_g : GoodIn lw_tbl wsL_law0_r3 := goodIn_r _ [101, 94, 95, 48, 96, 119, 610, 611, 612, 613, 615, 616, 617, 618, 619, 620, 622, 623, 624, 625, 626, 627, 628, 629] (by decide +kernel) (by decide +kernel)
theorem wsL_law0_r4_g : GoodIn lw_tbl wsL_law0_r4 := goodIn_r _ [630, 631, 632, 633, 635, 636, 637, 638, 639, 232, 233, 44, 234, 235, 236, 237, 238, 239, 240, 241, 337, 55, 336, 242] (by decide +kernel) (by decide +kernel)
theorem wsL_law0_r5_g : GoodIn lw_tbl wsL_law0_r5 := goodIn_r _ [243, 244, 245, 53, 313, 314, 315, 317, 318, 319, 320, 54, 697, 698, 699, 700, 710, 614, 701, 702, 703, 704, 705, 706] (by decide +kernel) (by decide +kernel)
theorem wsL_law0_r6_g : GoodIn lw_tbl wsL_law0_r6 := goodIn_r _ [707, 708, 709, 693, 694, 695, 696, 353, 354, 355, 356, 357, 358, 359, 711, 712, 713, 714, 361, 362, 363, 364, 365, 366] (by decide +kernel) (by decide +kernel)
theorem wsL_law0_r7_g : GoodIn lw_tbl wsL_law0_r7 := goodIn_r _ [367, 715, 716, 717, 718, 368, 369, 370, 371, 372, 373, 374, 375, 377, 11, 378, 381, 12, 382, 383, 385, 13, 386, 719] (by decide +kernel) (by decide +kernel)
theorem wsL_law0_r8_g : GoodIn lw_tbl wsL_law0_r8 := goodIn_r _ [720, 721, 722, 723, 725, 30, 726, 727, 729, 31, 730, 731, 733, 32, 734, 387, 388, 389, 390, 391, 392, 393, 735, 736] (by decide +kernel) (by decide +kernel)
theorem wsL_law0_r9_g : GoodIn lw_tbl wsL_law0_r9 := goodIn_r _ [737, 738, 394, 395, 396, 397, 398, 399, 400, 403, 14, 404, 405, 739, 740, 741, 742, 407, 408, 409, 410, 411, 412, 413] (by decide +kernel) (by decide +kernel)
theorem wsL_law0_r10_g : GoodIn lw_tbl wsL_law0_r10 := goodIn_r _ [416, 15, 417, 421, 16, 422, 425, 17, 426, 743, 744, 745, 746, 427, 428, 429, 430, 431, 432, 433, 126, 437, 18, 438] (by decide +kernel) (by decide +kernel)
theorem wsL_law0_r11_g : GoodIn lw_tbl wsL_law0_r11 := goodIn_r _ [439, 196, 195, 56, 747, 748, 749, 750, 621, 751, 753, 33, 754, 755, 757, 34, 758, 167, 168, 169, 170, 759, 760, 761] (by decide +kernel) (by decide +kernel)
theorem wsL_law0_r12_g : GoodIn lw_tbl wsL_law0_r12 := goodIn_r _ [762, 440, 441, 442, 443, 444, 445, 446, 447, 449, 19, 450, 454, 20, 455, 456, 458, 21, 459, 460, 763, 764, 765, 766] (by decide +kernel) (by decide +kernel)
theorem wsL_law0_r13_g : GoodIn lw_tbl wsL_law0_r13 := goodIn_r _ [767, 769, 35, 770, 771, 773, 36, 774, 461, 462, 463, 464, 465, 466, 467, 468, 470, 22, 471, 775, 776, 777, 778, 472] (by decide +kernel) (by decide +kernel)
theorem wsL_law0_r14_g : GoodIn lw_tbl wsL_law0_r14 := goodIn_r _ [473, 474, 475, 476, 477, 478, 779, 780, 781, 782, 479, 480, 481, 482, 483, 484, 485, 486, 488, 23, 489, 783, 784, 785] (by decide +kernel) (by decide +kernel)
theorem wsL_law0_r15_g : GoodIn lw_tbl wsL_law0_r15 := goodIn_r _ [786, 787, 789, 37, 790, 492, 493, 494, 495, 496, 497, 498, 499, 501, 24, 502, 791, 792, 793, 794, 504, 505, 506, 507] (by decide +kernel) (by decide +kernel)
theorem wsL_law0_r16_g : GoodIn lw_tbl wsL_law0_r16 := goodIn_r _ [508, 509, 510, 795, 796, 797, 798, 511, 512, 513, 514, 515, 516, 517, 799, 800, 801, 802, 518, 519, 520, 521, 522, 523] (by decide +kernel) (by decide +kernel)
theorem wsL_law0_r17_g : GoodIn lw_tbl wsL_law0_r17 := goodIn_r _ [524, 803, 804, 805, 806, 525, 526, 527, 528, 529, 530, 531, 185, 2, 186, 536, 25, 537, 807, 808, 809, 810, 538, 539] (by decide +kernel) (by decide +kernel)
theorem wsL_law0_r18_g : GoodIn lw_tbl wsL_law0_r18 := goodIn_r _ [540, 541, 542, 543, 544, 811, 812, 813, 814, 171, 172, 173, 174, 177, 0, 178, 103, 179, 181, 1, 182, 183, 187, 188] (by decide +kernel) (by decide +kernel)
theorem wsL_law0_r19_g : GoodIn lw_tbl wsL_law0_r19 := goodIn_r _ [189, 194, 190, 192, 3, 193, 197, 199, 4, 200, 815, 816, 817, 818, 819, 821, 38, 822, 823, 825, 39, 826, 827, 829] (by decide +kernel) (by decide +kernel)
theorem wsL_law0_r20_g : GoodIn lw_tbl wsL_law0_r20 := goodIn_r _ [40, 830, 201, 202, 203, 204, 207, 5, 208, 213, 214, 57, 215, 209, 211, 6, 212, 216, 218, 7, 219, 220, 222, 8] (by decide +kernel) (by decide +kernel)
theorem wsL_law0_r21_g : GoodIn lw_tbl wsL_law0_r21 := goodIn_r _ [223, 831, 832, 833, 834, 545, 546, 547, 548, 549, 550, 551, 835, 836, 837, 838, 224, 225, 226, 227, 230, 9, 231, 839] (by decide +kernel) (by decide +kernel)
theorem wsL_law0_r22_g : GoodIn lw_tbl wsL_law0_r22 := goodIn_r _ [840, 841, 842, 553, 554, 555, 556, 557, 558, 559, 133, 843, 844, 845, 846, 634, 562, 563, 564, 565, 566, 567, 568, 572] (by decide +kernel) (by decide +kernel)
theorem wsL_law0_r23_g : GoodIn lw_tbl wsL_law0_r23 := goodIn_r _ [26, 573, 574, 576, 27, 577, 847, 848, 849, 850, 851, 853, 41, 854, 855, 857, 42, 858, 578, 579, 580, 581, 582, 583] (by decide +kernel) (by decide +kernel)
theorem wsL_law0_r24_g : GoodIn lw_tbl wsL_law0_r24 := goodIn_r _ [584, 585, 587, 28, 588, 859, 860, 861, 862, 863, 865, 43, 866, 589, 590, 591, 592, 593, 594, 595, 867, 868, 869, 870] (by decide +kernel) (by decide +kernel)
theorem wsL_law0_r25_g : GoodIn lw_tbl wsL_law0_r25 := goodIn_r _ [596, 597, 598, 599, 600, 601, 602, 604, 606, 29, 607, 871, 872, 873, 874] (by decide +kernel) (by decide +kernel)
theorem wsX20_g : GoodIn lw_tbl wsX20 := goodIn_sub (by decide +kernel) (by decide +kernel)
theorem wsX30_g : GoodIn lw_tbl wsX30 := goodIn_sub (by decide +kernel) (by decide +kernel)
theorem wsX10_g : GoodIn lw_tbl wsX10 := goodIn_sub (by decide +kernel) (by decide +kernel)
theorem wsX00_g : GoodIn lw_tbl wsX00 := goodIn_sub (by decide +kernel) (by decide +kernel)
theorem wsL_law_in0 : ∀ w ∈ wsL_law0, w ∈ lw_tbl := fun w h => ((goodIn_app (goodIn_app (goodIn_app (goodIn_app (goodIn_app (goodIn_app wsL_law0_r1_g (goodIn_app wsL_law0_r2_g (goodIn_app wsL_law0_r3_g (goodIn_app wsL_law0_r4_g (goodIn_app wsL_law0_r5_g (goodIn_app wsL_law0_r6_g (goodIn_app wsL_law0_r7_g (goodIn_app wsL_law0_r8_g (goodIn_app wsL_law0_r9_g (goodIn_app wsL_law0_r10_g (goodIn_app wsL_law0_r11_g (goodIn_app wsL_law0_r12_g (goodIn_app wsL_law0_r13_g (goodIn_app wsL_law0_r14_g (goodIn_app wsL_law0_r15_g (goodIn_app wsL_law0_r16_g (goodIn_app wsL_law0_r17_g (goodIn_app wsL_law0_r18_g (goodIn_app wsL_law0_r19_g (goodIn_app wsL_law0_r20_g (goodIn_app wsL_law0_r21_g (goodIn_app wsL_law0_r22_g (goodIn_app wsL_law0_r23_g (goodIn_app wsL_law0_r24_g (wsL_law0_r25_g))))))))))))))))))))))))) wsX20_g) wsX30_g) wsX10_g) wsX00_g) (fun _ h => nomatch h) : GoodIn lw_tbl wsL_law0) w h).1
theorem wsL_law_x0 : ∀ w ∈ (vx_atS RX2 83 "java/lang/IllegalStateException" ["java/lang/RuntimeException", "java/lang/Exception"]).filter goodWord, w ∈ lw_tbl := by decide +kernel
theorem wsL_law_x1 : ∀ w ∈ (vx_atS RX2 112 "java/lang/IndexOutOfBoundsException" ["java/lang/RuntimeException", "java/lang/Exception"]).filter goodWord, w ∈ lw_tbl := by decide +kernel
theorem wsL_law_x2 : ∀ w ∈ (vx_atS RX2 154 "java/lang/IllegalArgumentException" ["java/lang/RuntimeException", "java/lang/Exception"]).filter goodWord, w ∈ lw_tbl := by decide +kernel
theorem wsL_law_in : ∀ w ∈ wsL_law, w ∈ lw_tbl := fun w h => (List.mem_append.mp h).elim (fun h => (List.mem_append.mp h).elim (fun h => (List.mem_append.mp h).elim (fun h => wsL_law_in0 w h) (fun h => wsL_law_x0 w h)) (fun h => wsL_law_x1 w h)) (fun h => wsL_law_x2 w h)
theorem inlX0 : ∀ w ∈ wsX00, w ∈ wsL_law := fun _ h => List.mem_append_left _ (List.mem_append_left _ (List.mem_append_left _ (List.mem_append_left _ (List.mem_append_right _ h))))
theorem inX0 : ∀ w ∈ wsX00, w ∈ lw_tbl := fun w h => wsL_law_in w (inlX0 w h)
theorem inlX1 : ∀ w ∈ wsX10, w ∈ wsL_law := fun _ h => List.mem_append_left _ (List.mem_append_left _ (List.mem_append_left _ (List.mem_append_left _ (List.mem_append_left _ (List.mem_append_right _ h)))))
theorem inX1 : ∀ w ∈ wsX10, w ∈ lw_tbl := fun w h => wsL_law_in w (inlX1 w h)
theorem inlX2 : ∀ w ∈ wsX20, w ∈ wsL_law := fun _ h => List.mem_append_left _ (List.mem_append_left _ (List.mem_append_left _ (List.mem_append_left _ (List.mem_append_left _ (List.mem_append_left _ (List.mem_append_left _ (List.mem_append_right _ h)))))))
theorem inX2 : ∀ w ∈ wsX20, w ∈ lw_tbl := fun w h => wsL_law_in w (inlX2 w h)
theorem inlX3 : ∀ w ∈ wsX30, w ∈ wsL_law := fun _ h => List.mem_append_left _ (List.mem_append_left _ (List.mem_append_left _ (List.mem_append_left _ (List.mem_append_left _ (List.mem_append_left _ (List.mem_append_right _ h))))))
theorem inX3 : ∀ w ∈ wsX30, w ∈ lw_tbl := fun w h => wsL_law_in w (inlX3 w h)
theorem inJx145de : ∀ w ∈ wsJx145de0, w ∈ lw_tbl := by decide +kernel
theorem inJ9 : ∀ w ∈ wsJ90, w ∈ lw_tbl := by decide +kernel
theorem inJ0 : ∀ w ∈ wsJ00, w ∈ lw_tbl := by decide +kernel
theorem inJ10 : ∀ w ∈ wsJ100, w ∈ lw_tbl := by decide +kernel
theorem inJ7 : ∀ w ∈ wsJ70, w ∈ lw_tbl := by decide +kernel
set_option maxRecDepth 20000 in
theorem ggX0_init_J7_fill_53178 : GoodIn wsX0_init wsJ7_fill_53178 := goodIn_r _ [14] (by decide +kernel) (by decide +kernel)
set_option maxRecDepth 20000 in
theorem gX0_init_J7_fill_53178 : GoodIn wsX0_init (va_wsS RX0 28 yJ7_fill_53178 wsJ7_fill_53178) := goodIn_app (goodIn_of _ (by decide +kernel)) ggX0_init_J7_fill_53178
theorem dX0_init_0 : decode cX0_init 0 = .ok (.aload_n 0, 1) := by decide +kernel
theorem dX0_init_1 : decode cX0_init 1 = .ok (.invokespecial 3, 3) := by decide +kernel
theorem dX0_init_4 : decode cX0_init 4 = .ok (.aload_n 0, 1) := by decide +kernel
theorem dX0_init_5 : decode cX0_init 5 = .ok (.bipush 7, 2) := by decide +kernel
theorem dX0_init_7 : decode cX0_init 7 = .ok (.newarray .int, 2) := by decide +kernel
theorem dX0_init_9 : decode cX0_init 9 = .ok (.putfield 9, 3) := by decide +kernel
theorem dX0_init_12 : decode cX0_init 12 = .ok (.aload_n 0, 1) := by decide +kernel
theorem dX0_init_13 : decode cX0_init 13 = .ok (.bipush 7, 2) := by decide +kernel
theorem dX0_init_15 : decode cX0_init 15 = .ok (.newarray .int, 2) := by decide +kernel
theorem dX0_init_17 : decode cX0_init 17 = .ok (.putfield 15, 3) := by decide +kernel
theorem dX0_init_20 : decode cX0_init 20 = .ok (.aload_n 0, 1) := by decide +kernel
theorem dX0_init_21 : decode cX0_init 21 = .ok (.bipush 7, 2) := by decide +kernel
theorem dX0_init_23 : decode cX0_init 23 = .ok (.newarray .boolean, 2) := by decide +kernel
theorem dX0_init_25 : decode cX0_init 25 = .ok (.putfield 18, 3) := by decide +kernel
theorem dX0_init_28 : decode cX0_init 28 = .ok (.aload_n 0, 1) := by decide +kernel
theorem dX0_init_29 : decode cX0_init 29 = .ok (.bipush 7, 2) := by decide +kernel
theorem dX0_init_31 : decode cX0_init 31 = .ok (.newarray .int, 2) := by decide +kernel
theorem dX0_init_33 : decode cX0_init 33 = .ok (.putfield 22, 3) := by decide +kernel
theorem dX0_init_36 : decode cX0_init 36 = .ok (.aload_n 0, 1) := by decide +kernel
theorem dX0_init_37 : decode cX0_init 37 = .ok (.bipush 7, 2) := by decide +kernel
theorem dX0_init_39 : decode cX0_init 39 = .ok (.newarray .int, 2) := by decide +kernel
theorem dX0_init_41 : decode cX0_init 41 = .ok (.putfield 25, 3) := by decide +kernel
theorem dX0_init_44 : decode cX0_init 44 = .ok (.aload_n 0, 1) := by decide +kernel
theorem dX0_init_45 : decode cX0_init 45 = .ok (.getfield 9, 3) := by decide +kernel
theorem dX0_init_48 : decode cX0_init 48 = .ok (.iconst (-1), 1) := by decide +kernel
theorem dX0_init_49 : decode cX0_init 49 = .ok (.invokestatic 28, 3) := by decide +kernel
theorem dX0_init_52 : decode cX0_init 52 = .ok (.aload_n 0, 1) := by decide +kernel
theorem dX0_init_53 : decode cX0_init 53 = .ok (.getfield 15, 3) := by decide +kernel
theorem dX0_init_56 : decode cX0_init 56 = .ok (.iconst (-1), 1) := by decide +kernel
theorem dX0_init_57 : decode cX0_init 57 = .ok (.invokestatic 28, 3) := by decide +kernel
theorem dX0_init_60 : decode cX0_init 60 = .ok (.return_, 1) := by decide +kernel
theorem dX0_hasWish_0 : decode cX0_hasWish 0 = .ok (.aload_n 0, 1) := by decide +kernel
theorem dX0_hasWish_1 : decode cX0_hasWish 1 = .ok (.getfield 9, 3) := by decide +kernel
theorem dX0_hasWish_4 : decode cX0_hasWish 4 = .ok (.iload_n 1, 1) := by decide +kernel
theorem dX0_hasWish_5 : decode cX0_hasWish 5 = .ok (.iaload, 1) := by decide +kernel
theorem dX0_hasWish_6 : decode cX0_hasWish 6 = .ok (.iconst (-1), 1) := by decide +kernel
theorem dX0_hasWish_7 : decode cX0_hasWish 7 = .ok (.if_icmp .eq 7, 3) := by decide +kernel
theorem dX0_hasWish_10 : decode cX0_hasWish 10 = .ok (.iconst 1, 1) := by decide +kernel
theorem dX0_hasWish_11 : decode cX0_hasWish 11 = .ok (.goto 4, 3) := by decide +kernel
theorem dX0_hasWish_14 : decode cX0_hasWish 14 = .ok (.iconst 0, 1) := by decide +kernel
theorem dX0_hasWish_15 : decode cX0_hasWish 15 = .ok (.ireturn, 1) := by decide +kernel
theorem dX0_setWish_0 : decode cX0_setWish 0 = .ok (.aload_n 0, 1) := by decide +kernel
theorem dX0_setWish_1 : decode cX0_setWish 1 = .ok (.getfield 9, 3) := by decide +kernel
theorem dX0_setWish_4 : decode cX0_setWish 4 = .ok (.iload_n 1, 1) := by decide +kernel
theorem dX0_setWish_5 : decode cX0_setWish 5 = .ok (.iload_n 2, 1) := by decide +kernel
theorem dX0_setWish_6 : decode cX0_setWish 6 = .ok (.iastore, 1) := by decide +kernel
theorem dX0_setWish_7 : decode cX0_setWish 7 = .ok (.aload_n 0, 1) := by decide +kernel
theorem dX0_setWish_8 : decode cX0_setWish 8 = .ok (.getfield 15, 3) := by decide +kernel
theorem dX0_setWish_11 : decode cX0_setWish 11 = .ok (.iload_n 1, 1) := by decide +kernel
theorem dX0_setWish_12 : decode cX0_setWish 12 = .ok (.iload_n 3, 1) := by decide +kernel
theorem dX0_setWish_13 : decode cX0_setWish 13 = .ok (.iastore, 1) := by decide +kernel
theorem dX0_setWish_14 : decode cX0_setWish 14 = .ok (.return_, 1) := by decide +kernel
set_option maxRecDepth 20000 in
theorem ggX0_markReady_X0_hasWish : GoodIn wsX0_markReady wsX0_hasWish := goodIn_r _ [7, 2, 8, 9, 10, 11, 12, 13] (by decide +kernel) (by decide +kernel)
set_option maxRecDepth 20000 in
theorem gX0_markReady_X0_hasWish : GoodIn wsX0_markReady (wsV RX0 34 RX0 yX0_hasWish wsX0_hasWish) := goodIn_app (goodIn_of _ (by decide +kernel)) ggX0_markReady_X0_hasWish
theorem dX0_markReady_0 : decode cX0_markReady 0 = .ok (.iconst 0, 1) := by decide +kernel
theorem dX0_markReady_1 : decode cX0_markReady 1 = .ok (.istore_n 2, 1) := by decide +kernel
theorem dX0_markReady_2 : decode cX0_markReady 2 = .ok (.iload_n 2, 1) := by decide +kernel
theorem dX0_markReady_3 : decode cX0_markReady 3 = .ok (.bipush 7, 2) := by decide +kernel
theorem dX0_markReady_5 : decode cX0_markReady 5 = .ok (.if_icmp .ge 41, 3) := by decide +kernel
theorem dX0_markReady_8 : decode cX0_markReady 8 = .ok (.aload_n 0, 1) := by decide +kernel
theorem dX0_markReady_9 : decode cX0_markReady 9 = .ok (.getfield 18, 3) := by decide +kernel
theorem dX0_markReady_12 : decode cX0_markReady 12 = .ok (.iload_n 2, 1) := by decide +kernel
theorem dX0_markReady_13 : decode cX0_markReady 13 = .ok (.aload_n 0, 1) := by decide +kernel
theorem dX0_markReady_14 : decode cX0_markReady 14 = .ok (.iload_n 2, 1) := by decide +kernel
theorem dX0_markReady_15 : decode cX0_markReady 15 = .ok (.invokevirtual 34, 3) := by decide +kernel
theorem dX0_markReady_18 : decode cX0_markReady 18 = .ok (.ifCond .eq 20, 3) := by decide +kernel
theorem dX0_markReady_21 : decode cX0_markReady 21 = .ok (.aload_n 1, 1) := by decide +kernel
theorem dX0_markReady_22 : decode cX0_markReady 22 = .ok (.iload_n 2, 1) := by decide +kernel
theorem dX0_markReady_23 : decode cX0_markReady 23 = .ok (.aaload, 1) := by decide +kernel
theorem dX0_markReady_24 : decode cX0_markReady 24 = .ok (.aload_n 0, 1) := by decide +kernel
theorem dX0_markReady_25 : decode cX0_markReady 25 = .ok (.getfield 9, 3) := by decide +kernel
theorem dX0_markReady_28 : decode cX0_markReady 28 = .ok (.iload_n 2, 1) := by decide +kernel
theorem dX0_markReady_29 : decode cX0_markReady 29 = .ok (.iaload, 1) := by decide +kernel
theorem dX0_markReady_30 : decode cX0_markReady 30 = .ok (.iaload, 1) := by decide +kernel
theorem dX0_markReady_31 : decode cX0_markReady 31 = .ok (.ifCond .le 7, 3) := by decide +kernel
theorem dX0_markReady_34 : decode cX0_markReady 34 = .ok (.iconst 1, 1) := by decide +kernel
theorem dX0_markReady_35 : decode cX0_markReady 35 = .ok (.goto 4, 3) := by decide +kernel
theorem dX0_markReady_38 : decode cX0_markReady 38 = .ok (.iconst 0, 1) := by decide +kernel
theorem dX0_markReady_39 : decode cX0_markReady 39 = .ok (.bastore, 1) := by decide +kernel
theorem dX0_markReady_40 : decode cX0_markReady 40 = .ok (.iinc 2 1, 3) := by decide +kernel
theorem dX0_markReady_43 : decode cX0_markReady 43 = .ok (.goto (-41), 3) := by decide +kernel
theorem dX0_markReady_46 : decode cX0_markReady 46 = .ok (.return_, 1) := by decide +kernel
theorem dX0_getsFrom_0 : decode cX0_getsFrom 0 = .ok (.aload_n 0, 1) := by decide +kernel
theorem dX0_getsFrom_1 : decode cX0_getsFrom 1 = .ok (.getfield 15, 3) := by decide +kernel
theorem dX0_getsFrom_4 : decode cX0_getsFrom 4 = .ok (.iload_n 1, 1) := by decide +kernel
theorem dX0_getsFrom_5 : decode cX0_getsFrom 5 = .ok (.iaload, 1) := by decide +kernel
theorem dX0_getsFrom_6 : decode cX0_getsFrom 6 = .ok (.aload_n 0, 1) := by decide +kernel
theorem dX0_getsFrom_7 : decode cX0_getsFrom 7 = .ok (.getfield 9, 3) := by decide +kernel
theorem dX0_getsFrom_10 : decode cX0_getsFrom 10 = .ok (.iload_n 2, 1) := by decide +kernel
theorem dX0_getsFrom_11 : decode cX0_getsFrom 11 = .ok (.iaload, 1) := by decide +kernel
theorem dX0_getsFrom_12 : decode cX0_getsFrom 12 = .ok (.if_icmp .ne 7, 3) := by decide +kernel
theorem dX0_getsFrom_15 : decode cX0_getsFrom 15 = .ok (.iconst 1, 1) := by decide +kernel
theorem dX0_getsFrom_16 : decode cX0_getsFrom 16 = .ok (.goto 4, 3) := by decide +kernel
theorem dX0_getsFrom_19 : decode cX0_getsFrom 19 = .ok (.iconst 0, 1) := by decide +kernel
theorem dX0_getsFrom_20 : decode cX0_getsFrom 20 = .ok (.ireturn, 1) := by decide +kernel
set_option maxRecDepth 20000 in
theorem ggX0_findBest_X0_markReady : GoodIn wsX0_findBest wsX0_markReady := goodIn_r _ [8, 2, 9, 10, 11, 12, 7, 13, 31, 32, 33, 34, 35, 36] (by decide +kernel) (by decide +kernel)
set_option maxRecDepth 20000 in
theorem gX0_findBest_X0_markReady : GoodIn wsX0_findBest (wsV RX0 38 RX0 yX0_markReady wsX0_markReady) := goodIn_app (goodIn_of _ (by decide +kernel)) ggX0_findBest_X0_markReady
set_option maxRecDepth 20000 in
theorem ggX0_findBest_X0_extend : GoodIn wsX0_findBest wsX0_extend := goodIn_r _ [16, 3, 1, 17, 18, 19, 20, 21, 2, 22, 23, 24, 7, 25, 26, 9, 27, 28, 29, 30, 14, 15, 31, 32, 33, 34, 35, 36] (by decide +kernel) (by decide +kernel)
set_option maxRecDepth 20000 in
theorem gX0_findBest_X0_extend : GoodIn wsX0_findBest (va_wsS RX0 46 yX0_extend wsX0_extend) := goodIn_app (goodIn_of _ (by decide +kernel)) ggX0_findBest_X0_extend
theorem dX0_findBest_0 : decode cX0_findBest 0 = .ok (.aload_n 0, 1) := by decide +kernel
theorem dX0_findBest_1 : decode cX0_findBest 1 = .ok (.aload_n 1, 1) := by decide +kernel
theorem dX0_findBest_2 : decode cX0_findBest 2 = .ok (.invokevirtual 38, 3) := by decide +kernel
theorem dX0_findBest_5 : decode cX0_findBest 5 = .ok (.aload_n 0, 1) := by decide +kernel
theorem dX0_findBest_6 : decode cX0_findBest 6 = .ok (.iconst 0, 1) := by decide +kernel
theorem dX0_findBest_7 : decode cX0_findBest 7 = .ok (.putfield 42, 3) := by decide +kernel
theorem dX0_findBest_10 : decode cX0_findBest 10 = .ok (.iconst 0, 1) := by decide +kernel
theorem dX0_findBest_11 : decode cX0_findBest 11 = .ok (.istore_n 2, 1) := by decide +kernel
theorem dX0_findBest_12 : decode cX0_findBest 12 = .ok (.iload_n 2, 1) := by decide +kernel
theorem dX0_findBest_13 : decode cX0_findBest 13 = .ok (.bipush 7, 2) := by decide +kernel
theorem dX0_findBest_15 : decode cX0_findBest 15 = .ok (.if_icmp .ge 30, 3) := by decide +kernel
theorem dX0_findBest_18 : decode cX0_findBest 18 = .ok (.aload_n 0, 1) := by decide +kernel
theorem dX0_findBest_19 : decode cX0_findBest 19 = .ok (.getfield 18, 3) := by decide +kernel
theorem dX0_findBest_22 : decode cX0_findBest 22 = .ok (.iload_n 2, 1) := by decide +kernel
theorem dX0_findBest_23 : decode cX0_findBest 23 = .ok (.baload, 1) := by decide +kernel
theorem dX0_findBest_24 : decode cX0_findBest 24 = .ok (.ifCond .eq 15, 3) := by decide +kernel
theorem dX0_findBest_27 : decode cX0_findBest 27 = .ok (.aload_n 0, 1) := by decide +kernel
theorem dX0_findBest_28 : decode cX0_findBest 28 = .ok (.getfield 22, 3) := by decide +kernel
theorem dX0_findBest_31 : decode cX0_findBest 31 = .ok (.iconst 0, 1) := by decide +kernel
theorem dX0_findBest_32 : decode cX0_findBest 32 = .ok (.iload_n 2, 1) := by decide +kernel
theorem dX0_findBest_33 : decode cX0_findBest 33 = .ok (.iastore, 1) := by decide +kernel
theorem dX0_findBest_34 : decode cX0_findBest 34 = .ok (.aload_n 0, 1) := by decide +kernel
theorem dX0_findBest_35 : decode cX0_findBest 35 = .ok (.iconst 1, 1) := by decide +kernel
theorem dX0_findBest_36 : decode cX0_findBest 36 = .ok (.invokestatic 46, 3) := by decide +kernel
theorem dX0_findBest_39 : decode cX0_findBest 39 = .ok (.iinc 2 1, 3) := by decide +kernel
theorem dX0_findBest_42 : decode cX0_findBest 42 = .ok (.goto (-30), 3) := by decide +kernel
theorem dX0_findBest_45 : decode cX0_findBest 45 = .ok (.return_, 1) := by decide +kernel
set_option maxRecDepth 20000 in
theorem ggX0_extend_X0_getsFrom : GoodIn wsX0_extend wsX0_getsFrom := goodIn_r _ [13, 14, 15, 22, 23, 24, 25, 26, 27] (by decide +kernel) (by decide +kernel)
set_option maxRecDepth 20000 in
theorem gX0_extend_X0_getsFrom : GoodIn wsX0_extend (wsV RX0 50 RX0 yX0_getsFrom wsX0_getsFrom) := goodIn_app (goodIn_of _ (by decide +kernel)) ggX0_extend_X0_getsFrom
set_option maxRecDepth 20000 in
theorem ggX0_extend_X0_isInRow : GoodIn wsX0_extend wsX0_isInRow := goodIn_r _ [19, 1, 22, 23, 24, 25, 26, 27] (by decide +kernel) (by decide +kernel)
set_option maxRecDepth 20000 in
theorem gX0_extend_X0_isInRow : GoodIn wsX0_extend (wsV RX0 60 RX0 yX0_isInRow wsX0_isInRow) := goodIn_app (goodIn_of _ (by decide +kernel)) ggX0_extend_X0_isInRow
set_option maxRecDepth 20000 in
theorem ggX0_extend_X0_extend : GoodIn wsX0_extend wsX0_extend := goodIn_r _ [0, 1, 2, 3, 4, 5, 6, 7, 8, 9, 10, 11, 12, 13, 14, 15, 16, 17, 18, 19, 20, 21, 22, 23, 24, 25, 26, 27] (by decide +kernel) (by decide +kernel)
set_option maxRecDepth 20000 in
theorem gX0_extend_X0_extend : GoodIn wsX0_extend (va_wsS RX0 46 yX0_extend wsX0_extend) := goodIn_app (goodIn_of _ (by decide +kernel)) ggX0_extend_X0_extend
theorem dX0_extend_0 : decode cX0_extend 0 = .ok (.iload_n 1, 1) := by decide +kernel
theorem dX0_extend_1 : decode cX0_extend 1 = .ok (.iconst 1, 1) := by decide +kernel
theorem dX0_extend_2 : decode cX0_extend 2 = .ok (.if_icmp .lt 9, 3) := by decide +kernel
theorem dX0_extend_5 : decode cX0_extend 5 = .ok (.iload_n 1, 1) := by decide +kernel
theorem dX0_extend_6 : decode cX0_extend 6 = .ok (.bipush 7, 2) := by decide +kernel
theorem dX0_extend_8 : decode cX0_extend 8 = .ok (.if_icmp .le 4, 3) := by decide +kernel
theorem dX0_extend_11 : decode cX0_extend 11 = .ok (.return_, 1) := by decide +kernel
theorem dX0_extend_12 : decode cX0_extend 12 = .ok (.aload_n 0, 1) := by decide +kernel
theorem dX0_extend_13 : decode cX0_extend 13 = .ok (.getfield 22, 3) := by decide +kernel
theorem dX0_extend_16 : decode cX0_extend 16 = .ok (.astore_n 2, 1) := by decide +kernel
theorem dX0_extend_17 : decode cX0_extend 17 = .ok (.aload_n 2, 1) := by decide +kernel
theorem dX0_extend_18 : decode cX0_extend 18 = .ok (.iload_n 1, 1) := by decide +kernel
theorem dX0_extend_19 : decode cX0_extend 19 = .ok (.iconst 1, 1) := by decide +kernel
theorem dX0_extend_20 : decode cX0_extend 20 = .ok (.isub, 1) := by decide +kernel
theorem dX0_extend_21 : decode cX0_extend 21 = .ok (.iaload, 1) := by decide +kernel
theorem dX0_extend_22 : decode cX0_extend 22 = .ok (.istore_n 3, 1) := by decide +kernel
theorem dX0_extend_23 : decode cX0_extend 23 = .ok (.iload_n 1, 1) := by decide +kernel
theorem dX0_extend_24 : decode cX0_extend 24 = .ok (.iconst 1, 1) := by decide +kernel
theorem dX0_extend_25 : decode cX0_extend 25 = .ok (.if_icmp .le 38, 3) := by decide +kernel
theorem dX0_extend_28 : decode cX0_extend 28 = .ok (.iload_n 1, 1) := by decide +kernel
theorem dX0_extend_29 : decode cX0_extend 29 = .ok (.aload_n 0, 1) := by decide +kernel
theorem dX0_extend_30 : decode cX0_extend 30 = .ok (.getfield 42, 3) := by decide +kernel
theorem dX0_extend_33 : decode cX0_extend 33 = .ok (.if_icmp .le 30, 3) := by decide +kernel
theorem dX0_extend_36 : decode cX0_extend 36 = .ok (.aload_n 0, 1) := by decide +kernel
theorem dX0_extend_37 : decode cX0_extend 37 = .ok (.iload_n 3, 1) := by decide +kernel
theorem dX0_extend_38 : decode cX0_extend 38 = .ok (.aload_n 2, 1) := by decide +kernel
theorem dX0_extend_39 : decode cX0_extend 39 = .ok (.iconst 0, 1) := by decide +kernel
theorem dX0_extend_40 : decode cX0_extend 40 = .ok (.iaload, 1) := by decide +kernel
theorem dX0_extend_41 : decode cX0_extend 41 = .ok (.invokevirtual 50, 3) := by decide +kernel
theorem dX0_extend_44 : decode cX0_extend 44 = .ok (.ifCond .eq 19, 3) := by decide +kernel
theorem dX0_extend_47 : decode cX0_extend 47 = .ok (.aload_n 2, 1) := by decide +kernel
theorem dX0_extend_48 : decode cX0_extend 48 = .ok (.iconst 0, 1) := by decide +kernel
theorem dX0_extend_49 : decode cX0_extend 49 = .ok (.aload_n 0, 1) := by decide +kernel
theorem dX0_extend_50 : decode cX0_extend 50 = .ok (.getfield 25, 3) := by decide +kernel
theorem dX0_extend_53 : decode cX0_extend 53 = .ok (.iconst 0, 1) := by decide +kernel
theorem dX0_extend_54 : decode cX0_extend 54 = .ok (.iload_n 1, 1) := by decide +kernel
theorem dX0_extend_55 : decode cX0_extend 55 = .ok (.invokestatic 54, 3) := by decide +kernel
theorem dX0_extend_58 : decode cX0_extend 58 = .ok (.aload_n 0, 1) := by decide +kernel
theorem dX0_extend_59 : decode cX0_extend 59 = .ok (.iload_n 1, 1) := by decide +kernel
theorem dX0_extend_60 : decode cX0_extend 60 = .ok (.putfield 42, 3) := by decide +kernel
theorem dX0_extend_63 : decode cX0_extend 63 = .ok (.aload_n 2, 1) := by decide +kernel
theorem dX0_extend_64 : decode cX0_extend 64 = .ok (.iconst 0, 1) := by decide +kernel
theorem dX0_extend_65 : decode cX0_extend 65 = .ok (.iaload, 1) := by decide +kernel
theorem dX0_extend_66 : decode cX0_extend 66 = .ok (.iconst 1, 1) := by decide +kernel
theorem dX0_extend_67 : decode cX0_extend 67 = .ok (.iadd, 1) := by decide +kernel
theorem dX0_extend_68 : decode cX0_extend 68 = .ok (.istore 4, 2) := by decide +kernel
theorem dX0_extend_70 : decode cX0_extend 70 = .ok (.iload 4, 2) := by decide +kernel
theorem dX0_extend_72 : decode cX0_extend 72 = .ok (.bipush 7, 2) := by decide +kernel
theorem dX0_extend_74 : decode cX0_extend 74 = .ok (.if_icmp .ge 57, 3) := by decide +kernel
theorem dX0_extend_77 : decode cX0_extend 77 = .ok (.iload_n 1, 1) := by decide +kernel
theorem dX0_extend_78 : decode cX0_extend 78 = .ok (.bipush 7, 2) := by decide +kernel
theorem dX0_extend_80 : decode cX0_extend 80 = .ok (.if_icmp .ge 51, 3) := by decide +kernel
theorem dX0_extend_83 : decode cX0_extend 83 = .ok (.aload_n 0, 1) := by decide +kernel
theorem dX0_extend_84 : decode cX0_extend 84 = .ok (.getfield 18, 3) := by decide +kernel
theorem dX0_extend_87 : decode cX0_extend 87 = .ok (.iload 4, 2) := by decide +kernel
theorem dX0_extend_89 : decode cX0_extend 89 = .ok (.baload, 1) := by decide +kernel
theorem dX0_extend_90 : decode cX0_extend 90 = .ok (.ifCond .eq 35, 3) := by decide +kernel
theorem dX0_extend_93 : decode cX0_extend 93 = .ok (.aload_n 0, 1) := by decide +kernel
theorem dX0_extend_94 : decode cX0_extend 94 = .ok (.iload_n 3, 1) := by decide +kernel
theorem dX0_extend_95 : decode cX0_extend 95 = .ok (.iload 4, 2) := by decide +kernel
theorem dX0_extend_97 : decode cX0_extend 97 = .ok (.invokevirtual 50, 3) := by decide +kernel
theorem dX0_extend_100 : decode cX0_extend 100 = .ok (.ifCond .eq 25, 3) := by decide +kernel
theorem dX0_extend_103 : decode cX0_extend 103 = .ok (.aload_n 0, 1) := by decide +kernel
theorem dX0_extend_104 : decode cX0_extend 104 = .ok (.iload 4, 2) := by decide +kernel
theorem dX0_extend_106 : decode cX0_extend 106 = .ok (.iload_n 1, 1) := by decide +kernel
theorem dX0_extend_107 : decode cX0_extend 107 = .ok (.invokevirtual 60, 3) := by decide +kernel
theorem dX0_extend_110 : decode cX0_extend 110 = .ok (.ifCond .ne 15, 3) := by decide +kernel
theorem dX0_extend_113 : decode cX0_extend 113 = .ok (.aload_n 2, 1) := by decide +kernel
theorem dX0_extend_114 : decode cX0_extend 114 = .ok (.iload_n 1, 1) := by decide +kernel
theorem dX0_extend_115 : decode cX0_extend 115 = .ok (.iload 4, 2) := by decide +kernel
theorem dX0_extend_117 : decode cX0_extend 117 = .ok (.iastore, 1) := by decide +kernel
theorem dX0_extend_118 : decode cX0_extend 118 = .ok (.aload_n 0, 1) := by decide +kernel
theorem dX0_extend_119 : decode cX0_extend 119 = .ok (.iload_n 1, 1) := by decide +kernel
theorem dX0_extend_120 : decode cX0_extend 120 = .ok (.iconst 1, 1) := by decide +kernel
theorem dX0_extend_121 : decode cX0_extend 121 = .ok (.iadd, 1) := by decide +kernel
theorem dX0_extend_122 : decode cX0_extend 122 = .ok (.invokestatic 46, 3) := by decide +kernel
theorem dX0_extend_125 : decode cX0_extend 125 = .ok (.iinc 4 1, 3) := by decide +kernel
theorem dX0_extend_128 : decode cX0_extend 128 = .ok (.goto (-58), 3) := by decide +kernel
theorem dX0_extend_131 : decode cX0_extend 131 = .ok (.return_, 1) := by decide +kernel
theorem dX0_isInRow_0 : decode cX0_isInRow 0 = .ok (.iconst 0, 1) := by decide +kernel
theorem dX0_isInRow_1 : decode cX0_isInRow 1 = .ok (.istore_n 3, 1) := by decide +kernel
theorem dX0_isInRow_2 : decode cX0_isInRow 2 = .ok (.iload_n 3, 1) := by decide +kernel
theorem dX0_isInRow_3 : decode cX0_isInRow 3 = .ok (.iload_n 2, 1) := by decide +kernel
theorem dX0_isInRow_4 : decode cX0_isInRow 4 = .ok (.if_icmp .ge 21, 3) := by decide +kernel
theorem dX0_isInRow_7 : decode cX0_isInRow 7 = .ok (.aload_n 0, 1) := by decide +kernel
theorem dX0_isInRow_8 : decode cX0_isInRow 8 = .ok (.getfield 22, 3) := by decide +kernel
theorem dX0_isInRow_11 : decode cX0_isInRow 11 = .ok (.iload_n 3, 1) := by decide +kernel
theorem dX0_isInRow_12 : decode cX0_isInRow 12 = .ok (.iaload, 1) := by decide +kernel
theorem dX0_isInRow_13 : decode cX0_isInRow 13 = .ok (.iload_n 1, 1) := by decide +kernel
theorem dX0_isInRow_14 : decode cX0_isInRow 14 = .ok (.if_icmp .ne 5, 3) := by decide +kernel
theorem dX0_isInRow_17 : decode cX0_isInRow 17 = .ok (.iconst 1, 1) := by decide +kernel
theorem dX0_isInRow_18 : decode cX0_isInRow 18 = .ok (.ireturn, 1) := by decide +kernel
theorem dX0_isInRow_19 : decode cX0_isInRow 19 = .ok (.iinc 3 1, 3) := by decide +kernel
theorem dX0_isInRow_22 : decode cX0_isInRow 22 = .ok (.goto (-20), 3) := by decide +kernel
theorem dX0_isInRow_25 : decode cX0_isInRow 25 = .ok (.iconst 0, 1) := by decide +kernel
theorem dX0_isInRow_26 : decode cX0_isInRow 26 = .ok (.ireturn, 1) := by decide +kernel
theorem dX0_exchange_0 : decode cX0_exchange 0 = .ok (.iconst 0, 1) := by decide +kernel
theorem dX0_exchange_1 : decode cX0_exchange 1 = .ok (.istore_n 2, 1) := by decide +kernel
theorem dX0_exchange_2 : decode cX0_exchange 2 = .ok (.iload_n 2, 1) := by decide +kernel
theorem dX0_exchange_3 : decode cX0_exchange 3 = .ok (.aload_n 0, 1) := by decide +kernel
theorem dX0_exchange_4 : decode cX0_exchange 4 = .ok (.getfield 42, 3) := by decide +kernel
theorem dX0_exchange_7 : decode cX0_exchange 7 = .ok (.if_icmp .ge 69, 3) := by decide +kernel
theorem dX0_exchange_10 : decode cX0_exchange 10 = .ok (.aload_n 0, 1) := by decide +kernel
theorem dX0_exchange_11 : decode cX0_exchange 11 = .ok (.getfield 25, 3) := by decide +kernel
theorem dX0_exchange_14 : decode cX0_exchange 14 = .ok (.iload_n 2, 1) := by decide +kernel
theorem dX0_exchange_15 : decode cX0_exchange 15 = .ok (.iaload, 1) := by decide +kernel
theorem dX0_exchange_16 : decode cX0_exchange 16 = .ok (.istore_n 3, 1) := by decide +kernel
theorem dX0_exchange_17 : decode cX0_exchange 17 = .ok (.aload_n 0, 1) := by decide +kernel
theorem dX0_exchange_18 : decode cX0_exchange 18 = .ok (.getfield 25, 3) := by decide +kernel
theorem dX0_exchange_21 : decode cX0_exchange 21 = .ok (.iload_n 2, 1) := by decide +kernel
theorem dX0_exchange_22 : decode cX0_exchange 22 = .ok (.iconst 1, 1) := by decide +kernel
theorem dX0_exchange_23 : decode cX0_exchange 23 = .ok (.iadd, 1) := by decide +kernel
theorem dX0_exchange_24 : decode cX0_exchange 24 = .ok (.aload_n 0, 1) := by decide +kernel
theorem dX0_exchange_25 : decode cX0_exchange 25 = .ok (.getfield 42, 3) := by decide +kernel
theorem dX0_exchange_28 : decode cX0_exchange 28 = .ok (.if_icmp .ge 9, 3) := by decide +kernel
theorem dX0_exchange_31 : decode cX0_exchange 31 = .ok (.iload_n 2, 1) := by decide +kernel
theorem dX0_exchange_32 : decode cX0_exchange 32 = .ok (.iconst 1, 1) := by decide +kernel
theorem dX0_exchange_33 : decode cX0_exchange 33 = .ok (.iadd, 1) := by decide +kernel
theorem dX0_exchange_34 : decode cX0_exchange 34 = .ok (.goto 4, 3) := by decide +kernel
theorem dX0_exchange_37 : decode cX0_exchange 37 = .ok (.iconst 0, 1) := by decide +kernel
theorem dX0_exchange_38 : decode cX0_exchange 38 = .ok (.iaload, 1) := by decide +kernel
theorem dX0_exchange_39 : decode cX0_exchange 39 = .ok (.istore 4, 2) := by decide +kernel
theorem dX0_exchange_41 : decode cX0_exchange 41 = .ok (.aload_n 1, 1) := by decide +kernel
theorem dX0_exchange_42 : decode cX0_exchange 42 = .ok (.iload_n 3, 1) := by decide +kernel
theorem dX0_exchange_43 : decode cX0_exchange 43 = .ok (.aaload, 1) := by decide +kernel
theorem dX0_exchange_44 : decode cX0_exchange 44 = .ok (.aload_n 0, 1) := by decide +kernel
theorem dX0_exchange_45 : decode cX0_exchange 45 = .ok (.getfield 15, 3) := by decide +kernel
theorem dX0_exchange_48 : decode cX0_exchange 48 = .ok (.iload_n 3, 1) := by decide +kernel
theorem dX0_exchange_49 : decode cX0_exchange 49 = .ok (.iaload, 1) := by decide +kernel
theorem dX0_exchange_50 : decode cX0_exchange 50 = .ok (.dup2, 1) := by decide +kernel
theorem dX0_exchange_51 : decode cX0_exchange 51 = .ok (.iaload, 1) := by decide +kernel
theorem dX0_exchange_52 : decode cX0_exchange 52 = .ok (.iconst 1, 1) := by decide +kernel
theorem dX0_exchange_53 : decode cX0_exchange 53 = .ok (.iadd, 1) := by decide +kernel
theorem dX0_exchange_54 : decode cX0_exchange 54 = .ok (.iastore, 1) := by decide +kernel
theorem dX0_exchange_55 : decode cX0_exchange 55 = .ok (.aload_n 1, 1) := by decide +kernel
theorem dX0_exchange_56 : decode cX0_exchange 56 = .ok (.iload 4, 2) := by decide +kernel
theorem dX0_exchange_58 : decode cX0_exchange 58 = .ok (.aaload, 1) := by decide +kernel
theorem dX0_exchange_59 : decode cX0_exchange 59 = .ok (.aload_n 0, 1) := by decide +kernel
theorem dX0_exchange_60 : decode cX0_exchange 60 = .ok (.getfield 15, 3) := by decide +kernel
theorem dX0_exchange_63 : decode cX0_exchange 63 = .ok (.iload_n 3, 1) := by decide +kernel
theorem dX0_exchange_64 : decode cX0_exchange 64 = .ok (.iaload, 1) := by decide +kernel
theorem dX0_exchange_65 : decode cX0_exchange 65 = .ok (.dup2, 1) := by decide +kernel
theorem dX0_exchange_66 : decode cX0_exchange 66 = .ok (.iaload, 1) := by decide +kernel
theorem dX0_exchange_67 : decode cX0_exchange 67 = .ok (.iconst 1, 1) := by decide +kernel
theorem dX0_exchange_68 : decode cX0_exchange 68 = .ok (.isub, 1) := by decide +kernel
theorem dX0_exchange_69 : decode cX0_exchange 69 = .ok (.iastore, 1) := by decide +kernel
theorem dX0_exchange_70 : decode cX0_exchange 70 = .ok (.iinc 2 1, 3) := by decide +kernel
theorem dX0_exchange_73 : decode cX0_exchange 73 = .ok (.goto (-71), 3) := by decide +kernel
theorem dX0_exchange_76 : decode cX0_exchange 76 = .ok (.return_, 1) := by decide +kernel
set_option maxRecDepth 20000 in
theorem ggX0_longestByOrders_X0_markReady : GoodIn wsX0_longestByOrders wsX0_markReady := goodIn_r _ [11, 1, 12, 13, 14, 15, 10, 16, 34, 35, 36, 37, 38, 39] (by decide +kernel) (by decide +kernel)
set_option maxRecDepth 20000 in
theorem gX0_longestByOrders_X0_markReady : GoodIn wsX0_longestByOrders (wsV RX0 38 RX0 yX0_markReady wsX0_markReady) := goodIn_app (goodIn_of _ (by decide +kernel)) ggX0_longestByOrders_X0_markReady
set_option maxRecDepth 20000 in
theorem ggX0_longestByOrders_X0_longestAtStartOfRow : GoodIn wsX0_longestByOrders wsX0_longestAtStartOfRow := goodIn_r _ [20, 2, 21, 22, 23, 10, 24, 25, 12, 34, 35, 36, 37, 38, 39] (by decide +kernel) (by decide +kernel)
set_option maxRecDepth 20000 in
theorem gX0_longestByOrders_X0_longestAtStartOfRow : GoodIn wsX0_longestByOrders (wsV RX0 63 RX0 yX0_longestAtStartOfRow wsX0_longestAtStartOfRow) := goodIn_app (goodIn_of _ (by decide +kernel)) ggX0_longestByOrders_X0_longestAtStartOfRow
set_option maxRecDepth 20000 in
theorem ggX0_longestByOrders_X0_nextOrder : GoodIn wsX0_longestByOrders wsX0_nextOrder := goodIn_r _ [29, 2, 30, 31, 32, 10, 33, 34, 35, 36, 37, 38, 39] (by decide +kernel) (by decide +kernel)
set_option maxRecDepth 20000 in
theorem gX0_longestByOrders_X0_nextOrder : GoodIn wsX0_longestByOrders (wsV RX0 73 RX0 yX0_nextOrder wsX0_nextOrder) := goodIn_app (goodIn_of _ (by decide +kernel)) ggX0_longestByOrders_X0_nextOrder
theorem dX0_longestByOrders_0 : decode cX0_longestByOrders 0 = .ok (.aload_n 0, 1) := by decide +kernel
theorem dX0_longestByOrders_1 : decode cX0_longestByOrders 1 = .ok (.aload_n 1, 1) := by decide +kernel
theorem dX0_longestByOrders_2 : decode cX0_longestByOrders 2 = .ok (.invokevirtual 38, 3) := by decide +kernel
theorem dX0_longestByOrders_5 : decode cX0_longestByOrders 5 = .ok (.iconst 0, 1) := by decide +kernel
theorem dX0_longestByOrders_6 : decode cX0_longestByOrders 6 = .ok (.istore_n 2, 1) := by decide +kernel
theorem dX0_longestByOrders_7 : decode cX0_longestByOrders 7 = .ok (.iconst 0, 1) := by decide +kernel
theorem dX0_longestByOrders_8 : decode cX0_longestByOrders 8 = .ok (.istore_n 3, 1) := by decide +kernel
theorem dX0_longestByOrders_9 : decode cX0_longestByOrders 9 = .ok (.iload_n 3, 1) := by decide +kernel
theorem dX0_longestByOrders_10 : decode cX0_longestByOrders 10 = .ok (.bipush 7, 2) := by decide +kernel
theorem dX0_longestByOrders_12 : decode cX0_longestByOrders 12 = .ok (.if_icmp .ge 28, 3) := by decide +kernel
theorem dX0_longestByOrders_15 : decode cX0_longestByOrders 15 = .ok (.aload_n 0, 1) := by decide +kernel
theorem dX0_longestByOrders_16 : decode cX0_longestByOrders 16 = .ok (.getfield 18, 3) := by decide +kernel
theorem dX0_longestByOrders_19 : decode cX0_longestByOrders 19 = .ok (.iload_n 3, 1) := by decide +kernel
theorem dX0_longestByOrders_20 : decode cX0_longestByOrders 20 = .ok (.baload, 1) := by decide +kernel
theorem dX0_longestByOrders_21 : decode cX0_longestByOrders 21 = .ok (.ifCond .eq 13, 3) := by decide +kernel
theorem dX0_longestByOrders_24 : decode cX0_longestByOrders 24 = .ok (.aload_n 0, 1) := by decide +kernel
theorem dX0_longestByOrders_25 : decode cX0_longestByOrders 25 = .ok (.getfield 22, 3) := by decide +kernel
theorem dX0_longestByOrders_28 : decode cX0_longestByOrders 28 = .ok (.iload_n 2, 1) := by decide +kernel
theorem dX0_longestByOrders_29 : decode cX0_longestByOrders 29 = .ok (.iload_n 3, 1) := by decide +kernel
theorem dX0_longestByOrders_30 : decode cX0_longestByOrders 30 = .ok (.iastore, 1) := by decide +kernel
theorem dX0_longestByOrders_31 : decode cX0_longestByOrders 31 = .ok (.iinc 2 1, 3) := by decide +kernel
theorem dX0_longestByOrders_34 : decode cX0_longestByOrders 34 = .ok (.iinc 3 1, 3) := by decide +kernel
theorem dX0_longestByOrders_37 : decode cX0_longestByOrders 37 = .ok (.goto (-28), 3) := by decide +kernel
theorem dX0_longestByOrders_40 : decode cX0_longestByOrders 40 = .ok (.iconst 0, 1) := by decide +kernel
theorem dX0_longestByOrders_41 : decode cX0_longestByOrders 41 = .ok (.istore_n 3, 1) := by decide +kernel
theorem dX0_longestByOrders_42 : decode cX0_longestByOrders 42 = .ok (.iconst 1, 1) := by decide +kernel
theorem dX0_longestByOrders_43 : decode cX0_longestByOrders 43 = .ok (.istore 4, 2) := by decide +kernel
theorem dX0_longestByOrders_45 : decode cX0_longestByOrders 45 = .ok (.iconst 0, 1) := by decide +kernel
theorem dX0_longestByOrders_46 : decode cX0_longestByOrders 46 = .ok (.istore 5, 2) := by decide +kernel
theorem dX0_longestByOrders_48 : decode cX0_longestByOrders 48 = .ok (.iload 5, 2) := by decide +kernel
theorem dX0_longestByOrders_50 : decode cX0_longestByOrders 50 = .ok (.sipush 5040, 3) := by decide +kernel
theorem dX0_longestByOrders_53 : decode cX0_longestByOrders 53 = .ok (.if_icmp .ge 31, 3) := by decide +kernel
theorem dX0_longestByOrders_56 : decode cX0_longestByOrders 56 = .ok (.iload 4, 2) := by decide +kernel
theorem dX0_longestByOrders_58 : decode cX0_longestByOrders 58 = .ok (.ifCond .eq 26, 3) := by decide +kernel
theorem dX0_longestByOrders_61 : decode cX0_longestByOrders 61 = .ok (.iload_n 3, 1) := by decide +kernel
theorem dX0_longestByOrders_62 : decode cX0_longestByOrders 62 = .ok (.aload_n 0, 1) := by decide +kernel
theorem dX0_longestByOrders_63 : decode cX0_longestByOrders 63 = .ok (.iload_n 2, 1) := by decide +kernel
theorem dX0_longestByOrders_64 : decode cX0_longestByOrders 64 = .ok (.invokevirtual 63, 3) := by decide +kernel
theorem dX0_longestByOrders_67 : decode cX0_longestByOrders 67 = .ok (.invokestatic 67, 3) := by decide +kernel
theorem dX0_longestByOrders_70 : decode cX0_longestByOrders 70 = .ok (.istore_n 3, 1) := by decide +kernel
theorem dX0_longestByOrders_71 : decode cX0_longestByOrders 71 = .ok (.aload_n 0, 1) := by decide +kernel
theorem dX0_longestByOrders_72 : decode cX0_longestByOrders 72 = .ok (.iload_n 2, 1) := by decide +kernel
theorem dX0_longestByOrders_73 : decode cX0_longestByOrders 73 = .ok (.invokevirtual 73, 3) := by decide +kernel
theorem dX0_longestByOrders_76 : decode cX0_longestByOrders 76 = .ok (.istore 4, 2) := by decide +kernel
theorem dX0_longestByOrders_78 : decode cX0_longestByOrders 78 = .ok (.iinc 5 1, 3) := by decide +kernel
theorem dX0_longestByOrders_81 : decode cX0_longestByOrders 81 = .ok (.goto (-33), 3) := by decide +kernel
theorem dX0_longestByOrders_84 : decode cX0_longestByOrders 84 = .ok (.iload_n 3, 1) := by decide +kernel
theorem dX0_longestByOrders_85 : decode cX0_longestByOrders 85 = .ok (.ireturn, 1) := by decide +kernel
set_option maxRecDepth 20000 in
theorem ggX0_longestAtStartOfRow_X0_getsFrom : GoodIn wsX0_longestAtStartOfRow wsX0_getsFrom := goodIn_r _ [6, 7, 8, 9, 10, 11, 12, 13, 14] (by decide +kernel) (by decide +kernel)
set_option maxRecDepth 20000 in
theorem gX0_longestAtStartOfRow_X0_getsFrom : GoodIn wsX0_longestAtStartOfRow (wsV RX0 50 RX0 yX0_getsFrom wsX0_getsFrom) := goodIn_app (goodIn_of _ (by decide +kernel)) ggX0_longestAtStartOfRow_X0_getsFrom
theorem dX0_longestAtStartOfRow_0 : decode cX0_longestAtStartOfRow 0 = .ok (.iconst 0, 1) := by decide +kernel
theorem dX0_longestAtStartOfRow_1 : decode cX0_longestAtStartOfRow 1 = .ok (.istore_n 2, 1) := by decide +kernel
theorem dX0_longestAtStartOfRow_2 : decode cX0_longestAtStartOfRow 2 = .ok (.iconst 2, 1) := by decide +kernel
theorem dX0_longestAtStartOfRow_3 : decode cX0_longestAtStartOfRow 3 = .ok (.istore_n 3, 1) := by decide +kernel
theorem dX0_longestAtStartOfRow_4 : decode cX0_longestAtStartOfRow 4 = .ok (.iload_n 3, 1) := by decide +kernel
theorem dX0_longestAtStartOfRow_5 : decode cX0_longestAtStartOfRow 5 = .ok (.iload_n 1, 1) := by decide +kernel
theorem dX0_longestAtStartOfRow_6 : decode cX0_longestAtStartOfRow 6 = .ok (.if_icmp .gt 55, 3) := by decide +kernel
theorem dX0_longestAtStartOfRow_9 : decode cX0_longestAtStartOfRow 9 = .ok (.aload_n 0, 1) := by decide +kernel
theorem dX0_longestAtStartOfRow_10 : decode cX0_longestAtStartOfRow 10 = .ok (.aload_n 0, 1) := by decide +kernel
theorem dX0_longestAtStartOfRow_11 : decode cX0_longestAtStartOfRow 11 = .ok (.getfield 22, 3) := by decide +kernel
theorem dX0_longestAtStartOfRow_14 : decode cX0_longestAtStartOfRow 14 = .ok (.iload_n 3, 1) := by decide +kernel
theorem dX0_longestAtStartOfRow_15 : decode cX0_longestAtStartOfRow 15 = .ok (.iconst 2, 1) := by decide +kernel
theorem dX0_longestAtStartOfRow_16 : decode cX0_longestAtStartOfRow 16 = .ok (.isub, 1) := by decide +kernel
theorem dX0_longestAtStartOfRow_17 : decode cX0_longestAtStartOfRow 17 = .ok (.iaload, 1) := by decide +kernel
theorem dX0_longestAtStartOfRow_18 : decode cX0_longestAtStartOfRow 18 = .ok (.aload_n 0, 1) := by decide +kernel
theorem dX0_longestAtStartOfRow_19 : decode cX0_longestAtStartOfRow 19 = .ok (.getfield 22, 3) := by decide +kernel
theorem dX0_longestAtStartOfRow_22 : decode cX0_longestAtStartOfRow 22 = .ok (.iload_n 3, 1) := by decide +kernel
theorem dX0_longestAtStartOfRow_23 : decode cX0_longestAtStartOfRow 23 = .ok (.iconst 1, 1) := by decide +kernel
theorem dX0_longestAtStartOfRow_24 : decode cX0_longestAtStartOfRow 24 = .ok (.isub, 1) := by decide +kernel
theorem dX0_longestAtStartOfRow_25 : decode cX0_longestAtStartOfRow 25 = .ok (.iaload, 1) := by decide +kernel
theorem dX0_longestAtStartOfRow_26 : decode cX0_longestAtStartOfRow 26 = .ok (.invokevirtual 50, 3) := by decide +kernel
theorem dX0_longestAtStartOfRow_29 : decode cX0_longestAtStartOfRow 29 = .ok (.ifCond .eq 32, 3) := by decide +kernel
theorem dX0_longestAtStartOfRow_32 : decode cX0_longestAtStartOfRow 32 = .ok (.aload_n 0, 1) := by decide +kernel
theorem dX0_longestAtStartOfRow_33 : decode cX0_longestAtStartOfRow 33 = .ok (.aload_n 0, 1) := by decide +kernel
theorem dX0_longestAtStartOfRow_34 : decode cX0_longestAtStartOfRow 34 = .ok (.getfield 22, 3) := by decide +kernel
theorem dX0_longestAtStartOfRow_37 : decode cX0_longestAtStartOfRow 37 = .ok (.iload_n 3, 1) := by decide +kernel
theorem dX0_longestAtStartOfRow_38 : decode cX0_longestAtStartOfRow 38 = .ok (.iconst 1, 1) := by decide +kernel
theorem dX0_longestAtStartOfRow_39 : decode cX0_longestAtStartOfRow 39 = .ok (.isub, 1) := by decide +kernel
theorem dX0_longestAtStartOfRow_40 : decode cX0_longestAtStartOfRow 40 = .ok (.iaload, 1) := by decide +kernel
theorem dX0_longestAtStartOfRow_41 : decode cX0_longestAtStartOfRow 41 = .ok (.aload_n 0, 1) := by decide +kernel
theorem dX0_longestAtStartOfRow_42 : decode cX0_longestAtStartOfRow 42 = .ok (.getfield 22, 3) := by decide +kernel
theorem dX0_longestAtStartOfRow_45 : decode cX0_longestAtStartOfRow 45 = .ok (.iconst 0, 1) := by decide +kernel
theorem dX0_longestAtStartOfRow_46 : decode cX0_longestAtStartOfRow 46 = .ok (.iaload, 1) := by decide +kernel
theorem dX0_longestAtStartOfRow_47 : decode cX0_longestAtStartOfRow 47 = .ok (.invokevirtual 50, 3) := by decide +kernel
theorem dX0_longestAtStartOfRow_50 : decode cX0_longestAtStartOfRow 50 = .ok (.ifCond .eq 5, 3) := by decide +kernel
theorem dX0_longestAtStartOfRow_53 : decode cX0_longestAtStartOfRow 53 = .ok (.iload_n 3, 1) := by decide +kernel
theorem dX0_longestAtStartOfRow_54 : decode cX0_longestAtStartOfRow 54 = .ok (.istore_n 2, 1) := by decide +kernel
theorem dX0_longestAtStartOfRow_55 : decode cX0_longestAtStartOfRow 55 = .ok (.iinc 3 1, 3) := by decide +kernel
theorem dX0_longestAtStartOfRow_58 : decode cX0_longestAtStartOfRow 58 = .ok (.goto (-54), 3) := by decide +kernel
theorem dX0_longestAtStartOfRow_61 : decode cX0_longestAtStartOfRow 61 = .ok (.iload_n 2, 1) := by decide +kernel
theorem dX0_longestAtStartOfRow_62 : decode cX0_longestAtStartOfRow 62 = .ok (.ireturn, 1) := by decide +kernel
set_option maxRecDepth 20000 in
theorem ggX0_nextOrder_X0_swap : GoodIn wsX0_nextOrder wsX0_swap := goodIn_r _ [6, 1, 7, 8, 9, 10, 11, 12] (by decide +kernel) (by decide +kernel)
set_option maxRecDepth 20000 in
theorem gX0_nextOrder_X0_swap : GoodIn wsX0_nextOrder (wsV RX0 76 RX0 yX0_swap wsX0_swap) := goodIn_app (goodIn_of _ (by decide +kernel)) ggX0_nextOrder_X0_swap
theorem dX0_nextOrder_0 : decode cX0_nextOrder 0 = .ok (.iload_n 1, 1) := by decide +kernel
theorem dX0_nextOrder_1 : decode cX0_nextOrder 1 = .ok (.iconst 2, 1) := by decide +kernel
theorem dX0_nextOrder_2 : decode cX0_nextOrder 2 = .ok (.isub, 1) := by decide +kernel
theorem dX0_nextOrder_3 : decode cX0_nextOrder 3 = .ok (.istore_n 2, 1) := by decide +kernel
theorem dX0_nextOrder_4 : decode cX0_nextOrder 4 = .ok (.iload_n 2, 1) := by decide +kernel
theorem dX0_nextOrder_5 : decode cX0_nextOrder 5 = .ok (.ifCond .lt 26, 3) := by decide +kernel
theorem dX0_nextOrder_8 : decode cX0_nextOrder 8 = .ok (.aload_n 0, 1) := by decide +kernel
theorem dX0_nextOrder_9 : decode cX0_nextOrder 9 = .ok (.getfield 22, 3) := by decide +kernel
theorem dX0_nextOrder_12 : decode cX0_nextOrder 12 = .ok (.iload_n 2, 1) := by decide +kernel
theorem dX0_nextOrder_13 : decode cX0_nextOrder 13 = .ok (.iaload, 1) := by decide +kernel
theorem dX0_nextOrder_14 : decode cX0_nextOrder 14 = .ok (.aload_n 0, 1) := by decide +kernel
theorem dX0_nextOrder_15 : decode cX0_nextOrder 15 = .ok (.getfield 22, 3) := by decide +kernel
theorem dX0_nextOrder_18 : decode cX0_nextOrder 18 = .ok (.iload_n 2, 1) := by decide +kernel
theorem dX0_nextOrder_19 : decode cX0_nextOrder 19 = .ok (.iconst 1, 1) := by decide +kernel
theorem dX0_nextOrder_20 : decode cX0_nextOrder 20 = .ok (.iadd, 1) := by decide +kernel
theorem dX0_nextOrder_21 : decode cX0_nextOrder 21 = .ok (.iaload, 1) := by decide +kernel
theorem dX0_nextOrder_22 : decode cX0_nextOrder 22 = .ok (.if_icmp .le 9, 3) := by decide +kernel
theorem dX0_nextOrder_25 : decode cX0_nextOrder 25 = .ok (.iinc 2 (-1), 3) := by decide +kernel
theorem dX0_nextOrder_28 : decode cX0_nextOrder 28 = .ok (.goto (-24), 3) := by decide +kernel
theorem dX0_nextOrder_31 : decode cX0_nextOrder 31 = .ok (.iload_n 2, 1) := by decide +kernel
theorem dX0_nextOrder_32 : decode cX0_nextOrder 32 = .ok (.ifCond .ge 5, 3) := by decide +kernel
theorem dX0_nextOrder_35 : decode cX0_nextOrder 35 = .ok (.iconst 0, 1) := by decide +kernel
theorem dX0_nextOrder_36 : decode cX0_nextOrder 36 = .ok (.ireturn, 1) := by decide +kernel
theorem dX0_nextOrder_37 : decode cX0_nextOrder 37 = .ok (.iload_n 1, 1) := by decide +kernel
theorem dX0_nextOrder_38 : decode cX0_nextOrder 38 = .ok (.iconst 1, 1) := by decide +kernel
theorem dX0_nextOrder_39 : decode cX0_nextOrder 39 = .ok (.isub, 1) := by decide +kernel
theorem dX0_nextOrder_40 : decode cX0_nextOrder 40 = .ok (.istore_n 3, 1) := by decide +kernel
theorem dX0_nextOrder_41 : decode cX0_nextOrder 41 = .ok (.iload_n 3, 1) := by decide +kernel
theorem dX0_nextOrder_42 : decode cX0_nextOrder 42 = .ok (.iload_n 2, 1) := by decide +kernel
theorem dX0_nextOrder_43 : decode cX0_nextOrder 43 = .ok (.iconst 1, 1) := by decide +kernel
theorem dX0_nextOrder_44 : decode cX0_nextOrder 44 = .ok (.iadd, 1) := by decide +kernel
theorem dX0_nextOrder_45 : decode cX0_nextOrder 45 = .ok (.if_icmp .le 24, 3) := by decide +kernel
theorem dX0_nextOrder_48 : decode cX0_nextOrder 48 = .ok (.aload_n 0, 1) := by decide +kernel
theorem dX0_nextOrder_49 : decode cX0_nextOrder 49 = .ok (.getfield 22, 3) := by decide +kernel
theorem dX0_nextOrder_52 : decode cX0_nextOrder 52 = .ok (.iload_n 3, 1) := by decide +kernel
theorem dX0_nextOrder_53 : decode cX0_nextOrder 53 = .ok (.iaload, 1) := by decide +kernel
theorem dX0_nextOrder_54 : decode cX0_nextOrder 54 = .ok (.aload_n 0, 1) := by decide +kernel
theorem dX0_nextOrder_55 : decode cX0_nextOrder 55 = .ok (.getfield 22, 3) := by decide +kernel
theorem dX0_nextOrder_58 : decode cX0_nextOrder 58 = .ok (.iload_n 2, 1) := by decide +kernel
theorem dX0_nextOrder_59 : decode cX0_nextOrder 59 = .ok (.iaload, 1) := by decide +kernel
theorem dX0_nextOrder_60 : decode cX0_nextOrder 60 = .ok (.if_icmp .ge 9, 3) := by decide +kernel
theorem dX0_nextOrder_63 : decode cX0_nextOrder 63 = .ok (.iinc 3 (-1), 3) := by decide +kernel
theorem dX0_nextOrder_66 : decode cX0_nextOrder 66 = .ok (.goto (-25), 3) := by decide +kernel
theorem dX0_nextOrder_69 : decode cX0_nextOrder 69 = .ok (.aload_n 0, 1) := by decide +kernel
theorem dX0_nextOrder_70 : decode cX0_nextOrder 70 = .ok (.iload_n 2, 1) := by decide +kernel
theorem dX0_nextOrder_71 : decode cX0_nextOrder 71 = .ok (.iload_n 3, 1) := by decide +kernel
theorem dX0_nextOrder_72 : decode cX0_nextOrder 72 = .ok (.invokevirtual 76, 3) := by decide +kernel
theorem dX0_nextOrder_75 : decode cX0_nextOrder 75 = .ok (.iload_n 2, 1) := by decide +kernel
theorem dX0_nextOrder_76 : decode cX0_nextOrder 76 = .ok (.iconst 1, 1) := by decide +kernel
theorem dX0_nextOrder_77 : decode cX0_nextOrder 77 = .ok (.iadd, 1) := by decide +kernel
theorem dX0_nextOrder_78 : decode cX0_nextOrder 78 = .ok (.istore 4, 2) := by decide +kernel
theorem dX0_nextOrder_80 : decode cX0_nextOrder 80 = .ok (.iload_n 1, 1) := by decide +kernel
theorem dX0_nextOrder_81 : decode cX0_nextOrder 81 = .ok (.iconst 1, 1) := by decide +kernel
theorem dX0_nextOrder_82 : decode cX0_nextOrder 82 = .ok (.isub, 1) := by decide +kernel
theorem dX0_nextOrder_83 : decode cX0_nextOrder 83 = .ok (.istore 5, 2) := by decide +kernel
theorem dX0_nextOrder_85 : decode cX0_nextOrder 85 = .ok (.iload 4, 2) := by decide +kernel
theorem dX0_nextOrder_87 : decode cX0_nextOrder 87 = .ok (.iload 5, 2) := by decide +kernel
theorem dX0_nextOrder_89 : decode cX0_nextOrder 89 = .ok (.if_icmp .ge 20, 3) := by decide +kernel
theorem dX0_nextOrder_92 : decode cX0_nextOrder 92 = .ok (.aload_n 0, 1) := by decide +kernel
theorem dX0_nextOrder_93 : decode cX0_nextOrder 93 = .ok (.iload 4, 2) := by decide +kernel
theorem dX0_nextOrder_95 : decode cX0_nextOrder 95 = .ok (.iload 5, 2) := by decide +kernel
theorem dX0_nextOrder_97 : decode cX0_nextOrder 97 = .ok (.invokevirtual 76, 3) := by decide +kernel
theorem dX0_nextOrder_100 : decode cX0_nextOrder 100 = .ok (.iinc 4 1, 3) := by decide +kernel
theorem dX0_nextOrder_103 : decode cX0_nextOrder 103 = .ok (.iinc 5 (-1), 3) := by decide +kernel
theorem dX0_nextOrder_106 : decode cX0_nextOrder 106 = .ok (.goto (-21), 3) := by decide +kernel
theorem dX0_nextOrder_109 : decode cX0_nextOrder 109 = .ok (.iconst 1, 1) := by decide +kernel
theorem dX0_nextOrder_110 : decode cX0_nextOrder 110 = .ok (.ireturn, 1) := by decide +kernel
theorem dX0_swap_0 : decode cX0_swap 0 = .ok (.aload_n 0, 1) := by decide +kernel
theorem dX0_swap_1 : decode cX0_swap 1 = .ok (.getfield 22, 3) := by decide +kernel
theorem dX0_swap_4 : decode cX0_swap 4 = .ok (.iload_n 1, 1) := by decide +kernel
theorem dX0_swap_5 : decode cX0_swap 5 = .ok (.iaload, 1) := by decide +kernel
theorem dX0_swap_6 : decode cX0_swap 6 = .ok (.istore_n 3, 1) := by decide +kernel
theorem dX0_swap_7 : decode cX0_swap 7 = .ok (.aload_n 0, 1) := by decide +kernel
theorem dX0_swap_8 : decode cX0_swap 8 = .ok (.getfield 22, 3) := by decide +kernel
theorem dX0_swap_11 : decode cX0_swap 11 = .ok (.iload_n 1, 1) := by decide +kernel
theorem dX0_swap_12 : decode cX0_swap 12 = .ok (.aload_n 0, 1) := by decide +kernel
theorem dX0_swap_13 : decode cX0_swap 13 = .ok (.getfield 22, 3) := by decide +kernel
theorem dX0_swap_16 : decode cX0_swap 16 = .ok (.iload_n 2, 1) := by decide +kernel
theorem dX0_swap_17 : decode cX0_swap 17 = .ok (.iaload, 1) := by decide +kernel
theorem dX0_swap_18 : decode cX0_swap 18 = .ok (.iastore, 1) := by decide +kernel
theorem dX0_swap_19 : decode cX0_swap 19 = .ok (.aload_n 0, 1) := by decide +kernel
theorem dX0_swap_20 : decode cX0_swap 20 = .ok (.getfield 22, 3) := by decide +kernel
theorem dX0_swap_23 : decode cX0_swap 23 = .ok (.iload_n 2, 1) := by decide +kernel
theorem dX0_swap_24 : decode cX0_swap 24 = .ok (.iload_n 3, 1) := by decide +kernel
theorem dX0_swap_25 : decode cX0_swap 25 = .ok (.iastore, 1) := by decide +kernel
theorem dX0_swap_26 : decode cX0_swap 26 = .ok (.return_, 1) := by decide +kernel
end
section
theorem dX1_init_0 : decode cX1_init 0 = .ok (.aload_n 0, 1) := by decide +kernel
theorem dX1_init_1 : decode cX1_init 1 = .ok (.invokespecial 3, 3) := by decide +kernel
theorem dX1_init_4 : decode cX1_init 4 = .ok (.aload_n 0, 1) := by decide +kernel
theorem dX1_init_5 : decode cX1_init 5 = .ok (.bipush 48, 2) := by decide +kernel
theorem dX1_init_7 : decode cX1_init 7 = .ok (.newarray .int, 2) := by decide +kernel
theorem dX1_init_9 : decode cX1_init 9 = .ok (.putfield 9, 3) := by decide +kernel
theorem dX1_init_12 : decode cX1_init 12 = .ok (.aload_n 0, 1) := by decide +kernel
theorem dX1_init_13 : decode cX1_init 13 = .ok (.iconst 1, 1) := by decide +kernel
theorem dX1_init_14 : decode cX1_init 14 = .ok (.putfield 15, 3) := by decide +kernel
theorem dX1_init_17 : decode cX1_init 17 = .ok (.aload_n 0, 1) := by decide +kernel
theorem dX1_init_18 : decode cX1_init 18 = .ok (.iconst 1, 1) := by decide +kernel
theorem dX1_init_19 : decode cX1_init 19 = .ok (.putfield 19, 3) := by decide +kernel
theorem dX1_init_22 : decode cX1_init 22 = .ok (.return_, 1) := by decide +kernel
set_option maxRecDepth 20000 in
theorem ggX1_begin_J7_fill_53178 : GoodIn wsX1_begin wsJ7_fill_53178 := goodIn_r _ [7] (by decide +kernel) (by decide +kernel)
set_option maxRecDepth 20000 in
theorem gX1_begin_J7_fill_53178 : GoodIn wsX1_begin (va_wsS RX1 22 yJ7_fill_53178 wsJ7_fill_53178) := goodIn_app (goodIn_of _ (by decide +kernel)) ggX1_begin_J7_fill_53178
theorem dX1_begin_0 : decode cX1_begin 0 = .ok (.aload_n 0, 1) := by decide +kernel
theorem dX1_begin_1 : decode cX1_begin 1 = .ok (.iload_n 1, 1) := by decide +kernel
theorem dX1_begin_2 : decode cX1_begin 2 = .ok (.putfield 15, 3) := by decide +kernel
theorem dX1_begin_5 : decode cX1_begin 5 = .ok (.aload_n 0, 1) := by decide +kernel
theorem dX1_begin_6 : decode cX1_begin 6 = .ok (.iload_n 2, 1) := by decide +kernel
theorem dX1_begin_7 : decode cX1_begin 7 = .ok (.putfield 19, 3) := by decide +kernel
theorem dX1_begin_10 : decode cX1_begin 10 = .ok (.aload_n 0, 1) := by decide +kernel
theorem dX1_begin_11 : decode cX1_begin 11 = .ok (.getfield 9, 3) := by decide +kernel
theorem dX1_begin_14 : decode cX1_begin 14 = .ok (.iconst 0, 1) := by decide +kernel
theorem dX1_begin_15 : decode cX1_begin 15 = .ok (.invokestatic 22, 3) := by decide +kernel
theorem dX1_begin_18 : decode cX1_begin 18 = .ok (.return_, 1) := by decide +kernel
theorem dX1_copyFrom_0 : decode cX1_copyFrom 0 = .ok (.aload_n 0, 1) := by decide +kernel
theorem dX1_copyFrom_1 : decode cX1_copyFrom 1 = .ok (.aload_n 1, 1) := by decide +kernel
theorem dX1_copyFrom_2 : decode cX1_copyFrom 2 = .ok (.getfield 15, 3) := by decide +kernel
theorem dX1_copyFrom_5 : decode cX1_copyFrom 5 = .ok (.putfield 15, 3) := by decide +kernel
theorem dX1_copyFrom_8 : decode cX1_copyFrom 8 = .ok (.aload_n 0, 1) := by decide +kernel
theorem dX1_copyFrom_9 : decode cX1_copyFrom 9 = .ok (.aload_n 1, 1) := by decide +kernel
theorem dX1_copyFrom_10 : decode cX1_copyFrom 10 = .ok (.getfield 19, 3) := by decide +kernel
theorem dX1_copyFrom_13 : decode cX1_copyFrom 13 = .ok (.putfield 19, 3) := by decide +kernel
theorem dX1_copyFrom_16 : decode cX1_copyFrom 16 = .ok (.aload_n 1, 1) := by decide +kernel
theorem dX1_copyFrom_17 : decode cX1_copyFrom 17 = .ok (.getfield 9, 3) := by decide +kernel
theorem dX1_copyFrom_20 : decode cX1_copyFrom 20 = .ok (.iconst 0, 1) := by decide +kernel
theorem dX1_copyFrom_21 : decode cX1_copyFrom 21 = .ok (.aload_n 0, 1) := by decide +kernel
theorem dX1_copyFrom_22 : decode cX1_copyFrom 22 = .ok (.getfield 9, 3) := by decide +kernel
theorem dX1_copyFrom_25 : decode cX1_copyFrom 25 = .ok (.iconst 0, 1) := by decide +kernel
theorem dX1_copyFrom_26 : decode cX1_copyFrom 26 = .ok (.aload_n 0, 1) := by decide +kernel
theorem dX1_copyFrom_27 : decode cX1_copyFrom 27 = .ok (.getfield 9, 3) := by decide +kernel
theorem dX1_copyFrom_30 : decode cX1_copyFrom 30 = .ok (.arraylength, 1) := by decide +kernel
theorem dX1_copyFrom_31 : decode cX1_copyFrom 31 = .ok (.invokestatic 28, 3) := by decide +kernel
theorem dX1_copyFrom_34 : decode cX1_copyFrom 34 = .ok (.return_, 1) := by decide +kernel
theorem dX1_size_0 : decode cX1_size 0 = .ok (.aload_n 0, 1) := by decide +kernel
theorem dX1_size_1 : decode cX1_size 1 = .ok (.getfield 15, 3) := by decide +kernel
theorem dX1_size_4 : decode cX1_size 4 = .ok (.aload_n 0, 1) := by decide +kernel
theorem dX1_size_5 : decode cX1_size 5 = .ok (.getfield 19, 3) := by decide +kernel
theorem dX1_size_8 : decode cX1_size 8 = .ok (.imul, 1) := by decide +kernel
theorem dX1_size_9 : decode cX1_size 9 = .ok (.ireturn, 1) := by decide +kernel
theorem dX1_hasCell_0 : decode cX1_hasCell 0 = .ok (.iload_n 1, 1) := by decide +kernel
theorem dX1_hasCell_1 : decode cX1_hasCell 1 = .ok (.ifCond .lt 27, 3) := by decide +kernel
theorem dX1_hasCell_4 : decode cX1_hasCell 4 = .ok (.iload_n 1, 1) := by decide +kernel
theorem dX1_hasCell_5 : decode cX1_hasCell 5 = .ok (.aload_n 0, 1) := by decide +kernel
theorem dX1_hasCell_6 : decode cX1_hasCell 6 = .ok (.getfield 15, 3) := by decide +kernel
theorem dX1_hasCell_9 : decode cX1_hasCell 9 = .ok (.if_icmp .ge 19, 3) := by decide +kernel
theorem dX1_hasCell_12 : decode cX1_hasCell 12 = .ok (.iload_n 2, 1) := by decide +kernel
theorem dX1_hasCell_13 : decode cX1_hasCell 13 = .ok (.ifCond .lt 15, 3) := by decide +kernel
theorem dX1_hasCell_16 : decode cX1_hasCell 16 = .ok (.iload_n 2, 1) := by decide +kernel
theorem dX1_hasCell_17 : decode cX1_hasCell 17 = .ok (.aload_n 0, 1) := by decide +kernel
theorem dX1_hasCell_18 : decode cX1_hasCell 18 = .ok (.getfield 19, 3) := by decide +kernel
theorem dX1_hasCell_21 : decode cX1_hasCell 21 = .ok (.if_icmp .ge 7, 3) := by decide +kernel
theorem dX1_hasCell_24 : decode cX1_hasCell 24 = .ok (.iconst 1, 1) := by decide +kernel
theorem dX1_hasCell_25 : decode cX1_hasCell 25 = .ok (.goto 4, 3) := by decide +kernel
theorem dX1_hasCell_28 : decode cX1_hasCell 28 = .ok (.iconst 0, 1) := by decide +kernel
theorem dX1_hasCell_29 : decode cX1_hasCell 29 = .ok (.ireturn, 1) := by decide +kernel
theorem dX1_colourAt_0 : decode cX1_colourAt 0 = .ok (.aload_n 0, 1) := by decide +kernel
theorem dX1_colourAt_1 : decode cX1_colourAt 1 = .ok (.getfield 9, 3) := by decide +kernel
theorem dX1_colourAt_4 : decode cX1_colourAt 4 = .ok (.iload_n 2, 1) := by decide +kernel
theorem dX1_colourAt_5 : decode cX1_colourAt 5 = .ok (.aload_n 0, 1) := by decide +kernel
theorem dX1_colourAt_6 : decode cX1_colourAt 6 = .ok (.getfield 15, 3) := by decide +kernel
theorem dX1_colourAt_9 : decode cX1_colourAt 9 = .ok (.imul, 1) := by decide +kernel
theorem dX1_colourAt_10 : decode cX1_colourAt 10 = .ok (.iload_n 1, 1) := by decide +kernel
theorem dX1_colourAt_11 : decode cX1_colourAt 11 = .ok (.iadd, 1) := by decide +kernel
theorem dX1_colourAt_12 : decode cX1_colourAt 12 = .ok (.iaload, 1) := by decide +kernel
theorem dX1_colourAt_13 : decode cX1_colourAt 13 = .ok (.ireturn, 1) := by decide +kernel
theorem dX1_paint_0 : decode cX1_paint 0 = .ok (.aload_n 0, 1) := by decide +kernel
theorem dX1_paint_1 : decode cX1_paint 1 = .ok (.getfield 9, 3) := by decide +kernel
theorem dX1_paint_4 : decode cX1_paint 4 = .ok (.iload_n 2, 1) := by decide +kernel
theorem dX1_paint_5 : decode cX1_paint 5 = .ok (.aload_n 0, 1) := by decide +kernel
theorem dX1_paint_6 : decode cX1_paint 6 = .ok (.getfield 15, 3) := by decide +kernel
theorem dX1_paint_9 : decode cX1_paint 9 = .ok (.imul, 1) := by decide +kernel
theorem dX1_paint_10 : decode cX1_paint 10 = .ok (.iload_n 1, 1) := by decide +kernel
theorem dX1_paint_11 : decode cX1_paint 11 = .ok (.iadd, 1) := by decide +kernel
theorem dX1_paint_12 : decode cX1_paint 12 = .ok (.iload_n 3, 1) := by decide +kernel
theorem dX1_paint_13 : decode cX1_paint 13 = .ok (.iastore, 1) := by decide +kernel
theorem dX1_paint_14 : decode cX1_paint 14 = .ok (.return_, 1) := by decide +kernel
set_option maxRecDepth 20000 in
theorem ggX1_cellsOf_X1_size : GoodIn wsX1_cellsOf wsX1_size := goodIn_r _ [6, 7, 8, 9, 10, 11] (by decide +kernel) (by decide +kernel)
set_option maxRecDepth 20000 in
theorem gX1_cellsOf_X1_size : GoodIn wsX1_cellsOf (wsV RX1 34 RX1 yX1_size wsX1_size) := goodIn_app (goodIn_of _ (by decide +kernel)) ggX1_cellsOf_X1_size
theorem dX1_cellsOf_0 : decode cX1_cellsOf 0 = .ok (.iconst 0, 1) := by decide +kernel
theorem dX1_cellsOf_1 : decode cX1_cellsOf 1 = .ok (.istore_n 2, 1) := by decide +kernel
theorem dX1_cellsOf_2 : decode cX1_cellsOf 2 = .ok (.iconst 0, 1) := by decide +kernel
theorem dX1_cellsOf_3 : decode cX1_cellsOf 3 = .ok (.istore_n 3, 1) := by decide +kernel
theorem dX1_cellsOf_4 : decode cX1_cellsOf 4 = .ok (.iload_n 3, 1) := by decide +kernel
theorem dX1_cellsOf_5 : decode cX1_cellsOf 5 = .ok (.aload_n 0, 1) := by decide +kernel
theorem dX1_cellsOf_6 : decode cX1_cellsOf 6 = .ok (.invokevirtual 34, 3) := by decide +kernel
theorem dX1_cellsOf_9 : decode cX1_cellsOf 9 = .ok (.if_icmp .ge 22, 3) := by decide +kernel
theorem dX1_cellsOf_12 : decode cX1_cellsOf 12 = .ok (.aload_n 0, 1) := by decide +kernel
theorem dX1_cellsOf_13 : decode cX1_cellsOf 13 = .ok (.getfield 9, 3) := by decide +kernel
theorem dX1_cellsOf_16 : decode cX1_cellsOf 16 = .ok (.iload_n 3, 1) := by decide +kernel
theorem dX1_cellsOf_17 : decode cX1_cellsOf 17 = .ok (.iaload, 1) := by decide +kernel
theorem dX1_cellsOf_18 : decode cX1_cellsOf 18 = .ok (.iload_n 1, 1) := by decide +kernel
theorem dX1_cellsOf_19 : decode cX1_cellsOf 19 = .ok (.if_icmp .ne 6, 3) := by decide +kernel
theorem dX1_cellsOf_22 : decode cX1_cellsOf 22 = .ok (.iinc 2 1, 3) := by decide +kernel
theorem dX1_cellsOf_25 : decode cX1_cellsOf 25 = .ok (.iinc 3 1, 3) := by decide +kernel
theorem dX1_cellsOf_28 : decode cX1_cellsOf 28 = .ok (.goto (-24), 3) := by decide +kernel
theorem dX1_cellsOf_31 : decode cX1_cellsOf 31 = .ok (.iload_n 2, 1) := by decide +kernel
theorem dX1_cellsOf_32 : decode cX1_cellsOf 32 = .ok (.ireturn, 1) := by decide +kernel
set_option maxRecDepth 20000 in
theorem ggX1_hasImage_X1_colourInImage : GoodIn wsX1_hasImage wsX1_colourInImage := goodIn_r _ [7, 2, 1, 8, 9, 10, 6, 11, 12, 13, 14, 15] (by decide +kernel) (by decide +kernel)
set_option maxRecDepth 20000 in
theorem gX1_hasImage_X1_colourInImage : GoodIn wsX1_hasImage (wsV RX1 38 RX1 yX1_colourInImage wsX1_colourInImage) := goodIn_app (goodIn_of _ (by decide +kernel)) ggX1_hasImage_X1_colourInImage
set_option maxRecDepth 20000 in
theorem ggX1_hasImage_X1_colourAt : GoodIn wsX1_hasImage wsX1_colourAt := goodIn_r _ [11, 12, 1, 13, 14, 15] (by decide +kernel) (by decide +kernel)
set_option maxRecDepth 20000 in
theorem gX1_hasImage_X1_colourAt : GoodIn wsX1_hasImage (wsV RX1 42 RX1 yX1_colourAt wsX1_colourAt) := goodIn_app (goodIn_of _ (by decide +kernel)) ggX1_hasImage_X1_colourAt
theorem dX1_hasImage_0 : decode cX1_hasImage 0 = .ok (.iload_n 1, 1) := by decide +kernel
theorem dX1_hasImage_1 : decode cX1_hasImage 1 = .ok (.iconst 1, 1) := by decide +kernel
theorem dX1_hasImage_2 : decode cX1_hasImage 2 = .ok (.iand, 1) := by decide +kernel
theorem dX1_hasImage_3 : decode cX1_hasImage 3 = .ok (.ifCond .eq 7, 3) := by decide +kernel
theorem dX1_hasImage_6 : decode cX1_hasImage 6 = .ok (.iconst 1, 1) := by decide +kernel
theorem dX1_hasImage_7 : decode cX1_hasImage 7 = .ok (.goto 4, 3) := by decide +kernel
theorem dX1_hasImage_10 : decode cX1_hasImage 10 = .ok (.iconst 0, 1) := by decide +kernel
theorem dX1_hasImage_11 : decode cX1_hasImage 11 = .ok (.istore_n 3, 1) := by decide +kernel
theorem dX1_hasImage_12 : decode cX1_hasImage 12 = .ok (.aload_n 2, 1) := by decide +kernel
theorem dX1_hasImage_13 : decode cX1_hasImage 13 = .ok (.getfield 15, 3) := by decide +kernel
theorem dX1_hasImage_16 : decode cX1_hasImage 16 = .ok (.iload_n 3, 1) := by decide +kernel
theorem dX1_hasImage_17 : decode cX1_hasImage 17 = .ok (.ifCond .eq 10, 3) := by decide +kernel
theorem dX1_hasImage_20 : decode cX1_hasImage 20 = .ok (.aload_n 0, 1) := by decide +kernel
theorem dX1_hasImage_21 : decode cX1_hasImage 21 = .ok (.getfield 19, 3) := by decide +kernel
theorem dX1_hasImage_24 : decode cX1_hasImage 24 = .ok (.goto 7, 3) := by decide +kernel
theorem dX1_hasImage_27 : decode cX1_hasImage 27 = .ok (.aload_n 0, 1) := by decide +kernel
theorem dX1_hasImage_28 : decode cX1_hasImage 28 = .ok (.getfield 15, 3) := by decide +kernel
theorem dX1_hasImage_31 : decode cX1_hasImage 31 = .ok (.if_icmp .ne 25, 3) := by decide +kernel
theorem dX1_hasImage_34 : decode cX1_hasImage 34 = .ok (.aload_n 2, 1) := by decide +kernel
theorem dX1_hasImage_35 : decode cX1_hasImage 35 = .ok (.getfield 19, 3) := by decide +kernel
theorem dX1_hasImage_38 : decode cX1_hasImage 38 = .ok (.iload_n 3, 1) := by decide +kernel
theorem dX1_hasImage_39 : decode cX1_hasImage 39 = .ok (.ifCond .eq 10, 3) := by decide +kernel
theorem dX1_hasImage_42 : decode cX1_hasImage 42 = .ok (.aload_n 0, 1) := by decide +kernel
theorem dX1_hasImage_43 : decode cX1_hasImage 43 = .ok (.getfield 15, 3) := by decide +kernel
theorem dX1_hasImage_46 : decode cX1_hasImage 46 = .ok (.goto 7, 3) := by decide +kernel
theorem dX1_hasImage_49 : decode cX1_hasImage 49 = .ok (.aload_n 0, 1) := by decide +kernel
theorem dX1_hasImage_50 : decode cX1_hasImage 50 = .ok (.getfield 19, 3) := by decide +kernel
theorem dX1_hasImage_53 : decode cX1_hasImage 53 = .ok (.if_icmp .eq 5, 3) := by decide +kernel
theorem dX1_hasImage_56 : decode cX1_hasImage 56 = .ok (.iconst 0, 1) := by decide +kernel
theorem dX1_hasImage_57 : decode cX1_hasImage 57 = .ok (.ireturn, 1) := by decide +kernel
theorem dX1_hasImage_58 : decode cX1_hasImage 58 = .ok (.iconst 0, 1) := by decide +kernel
theorem dX1_hasImage_59 : decode cX1_hasImage 59 = .ok (.istore 4, 2) := by decide +kernel
theorem dX1_hasImage_61 : decode cX1_hasImage 61 = .ok (.iload 4, 2) := by decide +kernel
theorem dX1_hasImage_63 : decode cX1_hasImage 63 = .ok (.aload_n 2, 1) := by decide +kernel
theorem dX1_hasImage_64 : decode cX1_hasImage 64 = .ok (.getfield 19, 3) := by decide +kernel
theorem dX1_hasImage_67 : decode cX1_hasImage 67 = .ok (.if_icmp .ge 49, 3) := by decide +kernel
theorem dX1_hasImage_70 : decode cX1_hasImage 70 = .ok (.iconst 0, 1) := by decide +kernel
theorem dX1_hasImage_71 : decode cX1_hasImage 71 = .ok (.istore 5, 2) := by decide +kernel
theorem dX1_hasImage_73 : decode cX1_hasImage 73 = .ok (.iload 5, 2) := by decide +kernel
theorem dX1_hasImage_75 : decode cX1_hasImage 75 = .ok (.aload_n 2, 1) := by decide +kernel
theorem dX1_hasImage_76 : decode cX1_hasImage 76 = .ok (.getfield 15, 3) := by decide +kernel
theorem dX1_hasImage_79 : decode cX1_hasImage 79 = .ok (.if_icmp .ge 31, 3) := by decide +kernel
theorem dX1_hasImage_82 : decode cX1_hasImage 82 = .ok (.aload_n 0, 1) := by decide +kernel
theorem dX1_hasImage_83 : decode cX1_hasImage 83 = .ok (.iload_n 1, 1) := by decide +kernel
theorem dX1_hasImage_84 : decode cX1_hasImage 84 = .ok (.iload 5, 2) := by decide +kernel
theorem dX1_hasImage_86 : decode cX1_hasImage 86 = .ok (.iload 4, 2) := by decide +kernel
theorem dX1_hasImage_88 : decode cX1_hasImage 88 = .ok (.invokevirtual 38, 3) := by decide +kernel
theorem dX1_hasImage_91 : decode cX1_hasImage 91 = .ok (.aload_n 2, 1) := by decide +kernel
theorem dX1_hasImage_92 : decode cX1_hasImage 92 = .ok (.iload 5, 2) := by decide +kernel
theorem dX1_hasImage_94 : decode cX1_hasImage 94 = .ok (.iload 4, 2) := by decide +kernel
theorem dX1_hasImage_96 : decode cX1_hasImage 96 = .ok (.invokevirtual 42, 3) := by decide +kernel
theorem dX1_hasImage_99 : decode cX1_hasImage 99 = .ok (.if_icmp .eq 5, 3) := by decide +kernel
theorem dX1_hasImage_102 : decode cX1_hasImage 102 = .ok (.iconst 0, 1) := by decide +kernel
theorem dX1_hasImage_103 : decode cX1_hasImage 103 = .ok (.ireturn, 1) := by decide +kernel
theorem dX1_hasImage_104 : decode cX1_hasImage 104 = .ok (.iinc 5 1, 3) := by decide +kernel
theorem dX1_hasImage_107 : decode cX1_hasImage 107 = .ok (.goto (-34), 3) := by decide +kernel
theorem dX1_hasImage_110 : decode cX1_hasImage 110 = .ok (.iinc 4 1, 3) := by decide +kernel
theorem dX1_hasImage_113 : decode cX1_hasImage 113 = .ok (.goto (-52), 3) := by decide +kernel
theorem dX1_hasImage_116 : decode cX1_hasImage 116 = .ok (.iconst 1, 1) := by decide +kernel
theorem dX1_hasImage_117 : decode cX1_hasImage 117 = .ok (.ireturn, 1) := by decide +kernel
set_option maxRecDepth 20000 in
theorem ggX1_colourInImage_X1_colourAt : GoodIn wsX1_colourInImage wsX1_colourAt := goodIn_r _ [7, 8, 2, 9, 10, 11] (by decide +kernel) (by decide +kernel)
set_option maxRecDepth 20000 in
theorem gX1_colourInImage_X1_colourAt : GoodIn wsX1_colourInImage (wsV RX1 42 RX1 yX1_colourAt wsX1_colourAt) := goodIn_app (goodIn_of _ (by decide +kernel)) ggX1_colourInImage_X1_colourAt
theorem dX1_colourInImage_0 : decode cX1_colourInImage 0 = .ok (.iload_n 2, 1) := by decide +kernel
theorem dX1_colourInImage_1 : decode cX1_colourInImage 1 = .ok (.istore 4, 2) := by decide +kernel
theorem dX1_colourInImage_3 : decode cX1_colourInImage 3 = .ok (.iload_n 3, 1) := by decide +kernel
theorem dX1_colourInImage_4 : decode cX1_colourInImage 4 = .ok (.istore 5, 2) := by decide +kernel
theorem dX1_colourInImage_6 : decode cX1_colourInImage 6 = .ok (.iload_n 1, 1) := by decide +kernel
theorem dX1_colourInImage_7 : decode cX1_colourInImage 7 = .ok (.iconst 3, 1) := by decide +kernel
theorem dX1_colourInImage_8 : decode cX1_colourInImage 8 = .ok (.iand, 1) := by decide +kernel
theorem dX1_colourInImage_9 : decode cX1_colourInImage 9 = .ok (.tableswitch 82 1 3 #[27, 43, 66], 27) := by decide +kernel
theorem dX1_colourInImage_36 : decode cX1_colourInImage 36 = .ok (.iload_n 3, 1) := by decide +kernel
theorem dX1_colourInImage_37 : decode cX1_colourInImage 37 = .ok (.istore 4, 2) := by decide +kernel
theorem dX1_colourInImage_39 : decode cX1_colourInImage 39 = .ok (.aload_n 0, 1) := by decide +kernel
theorem dX1_colourInImage_40 : decode cX1_colourInImage 40 = .ok (.getfield 19, 3) := by decide +kernel
theorem dX1_colourInImage_43 : decode cX1_colourInImage 43 = .ok (.iconst 1, 1) := by decide +kernel
theorem dX1_colourInImage_44 : decode cX1_colourInImage 44 = .ok (.isub, 1) := by decide +kernel
theorem dX1_colourInImage_45 : decode cX1_colourInImage 45 = .ok (.iload_n 2, 1) := by decide +kernel
theorem dX1_colourInImage_46 : decode cX1_colourInImage 46 = .ok (.isub, 1) := by decide +kernel
theorem dX1_colourInImage_47 : decode cX1_colourInImage 47 = .ok (.istore 5, 2) := by decide +kernel
theorem dX1_colourInImage_49 : decode cX1_colourInImage 49 = .ok (.goto 42, 3) := by decide +kernel
theorem dX1_colourInImage_52 : decode cX1_colourInImage 52 = .ok (.aload_n 0, 1) := by decide +kernel
theorem dX1_colourInImage_53 : decode cX1_colourInImage 53 = .ok (.getfield 15, 3) := by decide +kernel
theorem dX1_colourInImage_56 : decode cX1_colourInImage 56 = .ok (.iconst 1, 1) := by decide +kernel
theorem dX1_colourInImage_57 : decode cX1_colourInImage 57 = .ok (.isub, 1) := by decide +kernel
theorem dX1_colourInImage_58 : decode cX1_colourInImage 58 = .ok (.iload_n 2, 1) := by decide +kernel
theorem dX1_colourInImage_59 : decode cX1_colourInImage 59 = .ok (.isub, 1) := by decide +kernel
theorem dX1_colourInImage_60 : decode cX1_colourInImage 60 = .ok (.istore 4, 2) := by decide +kernel
theorem dX1_colourInImage_62 : decode cX1_colourInImage 62 = .ok (.aload_n 0, 1) := by decide +kernel
theorem dX1_colourInImage_63 : decode cX1_colourInImage 63 = .ok (.getfield 19, 3) := by decide +kernel
theorem dX1_colourInImage_66 : decode cX1_colourInImage 66 = .ok (.iconst 1, 1) := by decide +kernel
theorem dX1_colourInImage_67 : decode cX1_colourInImage 67 = .ok (.isub, 1) := by decide +kernel
theorem dX1_colourInImage_68 : decode cX1_colourInImage 68 = .ok (.iload_n 3, 1) := by decide +kernel
theorem dX1_colourInImage_69 : decode cX1_colourInImage 69 = .ok (.isub, 1) := by decide +kernel
theorem dX1_colourInImage_70 : decode cX1_colourInImage 70 = .ok (.istore 5, 2) := by decide +kernel
theorem dX1_colourInImage_72 : decode cX1_colourInImage 72 = .ok (.goto 19, 3) := by decide +kernel
theorem dX1_colourInImage_75 : decode cX1_colourInImage 75 = .ok (.aload_n 0, 1) := by decide +kernel
theorem dX1_colourInImage_76 : decode cX1_colourInImage 76 = .ok (.getfield 15, 3) := by decide +kernel
theorem dX1_colourInImage_79 : decode cX1_colourInImage 79 = .ok (.iconst 1, 1) := by decide +kernel
theorem dX1_colourInImage_80 : decode cX1_colourInImage 80 = .ok (.isub, 1) := by decide +kernel
theorem dX1_colourInImage_81 : decode cX1_colourInImage 81 = .ok (.iload_n 3, 1) := by decide +kernel
theorem dX1_colourInImage_82 : decode cX1_colourInImage 82 = .ok (.isub, 1) := by decide +kernel
theorem dX1_colourInImage_83 : decode cX1_colourInImage 83 = .ok (.istore 4, 2) := by decide +kernel
theorem dX1_colourInImage_85 : decode cX1_colourInImage 85 = .ok (.iload_n 2, 1) := by decide +kernel
theorem dX1_colourInImage_86 : decode cX1_colourInImage 86 = .ok (.istore 5, 2) := by decide +kernel
theorem dX1_colourInImage_88 : decode cX1_colourInImage 88 = .ok (.goto 3, 3) := by decide +kernel
theorem dX1_colourInImage_91 : decode cX1_colourInImage 91 = .ok (.iload_n 1, 1) := by decide +kernel
theorem dX1_colourInImage_92 : decode cX1_colourInImage 92 = .ok (.iconst 4, 1) := by decide +kernel
theorem dX1_colourInImage_93 : decode cX1_colourInImage 93 = .ok (.iand, 1) := by decide +kernel
theorem dX1_colourInImage_94 : decode cX1_colourInImage 94 = .ok (.ifCond .eq 14, 3) := by decide +kernel
theorem dX1_colourInImage_97 : decode cX1_colourInImage 97 = .ok (.aload_n 0, 1) := by decide +kernel
theorem dX1_colourInImage_98 : decode cX1_colourInImage 98 = .ok (.getfield 15, 3) := by decide +kernel
theorem dX1_colourInImage_101 : decode cX1_colourInImage 101 = .ok (.iconst 1, 1) := by decide +kernel
theorem dX1_colourInImage_102 : decode cX1_colourInImage 102 = .ok (.isub, 1) := by decide +kernel
theorem dX1_colourInImage_103 : decode cX1_colourInImage 103 = .ok (.iload 4, 2) := by decide +kernel
theorem dX1_colourInImage_105 : decode cX1_colourInImage 105 = .ok (.isub, 1) := by decide +kernel
theorem dX1_colourInImage_106 : decode cX1_colourInImage 106 = .ok (.istore 4, 2) := by decide +kernel
theorem dX1_colourInImage_108 : decode cX1_colourInImage 108 = .ok (.aload_n 0, 1) := by decide +kernel
theorem dX1_colourInImage_109 : decode cX1_colourInImage 109 = .ok (.iload 4, 2) := by decide +kernel
theorem dX1_colourInImage_111 : decode cX1_colourInImage 111 = .ok (.iload 5, 2) := by decide +kernel
theorem dX1_colourInImage_113 : decode cX1_colourInImage 113 = .ok (.invokevirtual 42, 3) := by decide +kernel
theorem dX1_colourInImage_116 : decode cX1_colourInImage 116 = .ok (.ireturn, 1) := by decide +kernel
set_option maxRecDepth 20000 in
theorem ggX1_placesOf_X1_shows : GoodIn wsX1_placesOf wsX1_shows := goodIn_r _ [7, 1, 2, 8, 9, 10, 6, 11, 12, 13, 14, 15] (by decide +kernel) (by decide +kernel)
set_option maxRecDepth 20000 in
theorem gX1_placesOf_X1_shows : GoodIn wsX1_placesOf (wsV RX1 46 RX1 yX1_shows wsX1_shows) := goodIn_app (goodIn_of _ (by decide +kernel)) ggX1_placesOf_X1_shows
theorem dX1_placesOf_0 : decode cX1_placesOf 0 = .ok (.iconst 0, 1) := by decide +kernel
theorem dX1_placesOf_1 : decode cX1_placesOf 1 = .ok (.istore_n 2, 1) := by decide +kernel
theorem dX1_placesOf_2 : decode cX1_placesOf 2 = .ok (.iconst 0, 1) := by decide +kernel
theorem dX1_placesOf_3 : decode cX1_placesOf 3 = .ok (.istore_n 3, 1) := by decide +kernel
theorem dX1_placesOf_4 : decode cX1_placesOf 4 = .ok (.iload_n 3, 1) := by decide +kernel
theorem dX1_placesOf_5 : decode cX1_placesOf 5 = .ok (.aload_n 1, 1) := by decide +kernel
theorem dX1_placesOf_6 : decode cX1_placesOf 6 = .ok (.getfield 19, 3) := by decide +kernel
theorem dX1_placesOf_9 : decode cX1_placesOf 9 = .ok (.iadd, 1) := by decide +kernel
theorem dX1_placesOf_10 : decode cX1_placesOf 10 = .ok (.aload_n 0, 1) := by decide +kernel
theorem dX1_placesOf_11 : decode cX1_placesOf 11 = .ok (.getfield 19, 3) := by decide +kernel
theorem dX1_placesOf_14 : decode cX1_placesOf 14 = .ok (.if_icmp .gt 46, 3) := by decide +kernel
theorem dX1_placesOf_17 : decode cX1_placesOf 17 = .ok (.iconst 0, 1) := by decide +kernel
theorem dX1_placesOf_18 : decode cX1_placesOf 18 = .ok (.istore 4, 2) := by decide +kernel
theorem dX1_placesOf_20 : decode cX1_placesOf 20 = .ok (.iload 4, 2) := by decide +kernel
theorem dX1_placesOf_22 : decode cX1_placesOf 22 = .ok (.aload_n 1, 1) := by decide +kernel
theorem dX1_placesOf_23 : decode cX1_placesOf 23 = .ok (.getfield 15, 3) := by decide +kernel
theorem dX1_placesOf_26 : decode cX1_placesOf 26 = .ok (.iadd, 1) := by decide +kernel
theorem dX1_placesOf_27 : decode cX1_placesOf 27 = .ok (.aload_n 0, 1) := by decide +kernel
theorem dX1_placesOf_28 : decode cX1_placesOf 28 = .ok (.getfield 15, 3) := by decide +kernel
theorem dX1_placesOf_31 : decode cX1_placesOf 31 = .ok (.if_icmp .gt 23, 3) := by decide +kernel
theorem dX1_placesOf_34 : decode cX1_placesOf 34 = .ok (.aload_n 0, 1) := by decide +kernel
theorem dX1_placesOf_35 : decode cX1_placesOf 35 = .ok (.aload_n 1, 1) := by decide +kernel
theorem dX1_placesOf_36 : decode cX1_placesOf 36 = .ok (.iload 4, 2) := by decide +kernel
theorem dX1_placesOf_38 : decode cX1_placesOf 38 = .ok (.iload_n 3, 1) := by decide +kernel
theorem dX1_placesOf_39 : decode cX1_placesOf 39 = .ok (.invokevirtual 46, 3) := by decide +kernel
theorem dX1_placesOf_42 : decode cX1_placesOf 42 = .ok (.ifCond .eq 6, 3) := by decide +kernel
theorem dX1_placesOf_45 : decode cX1_placesOf 45 = .ok (.iinc 2 1, 3) := by decide +kernel
theorem dX1_placesOf_48 : decode cX1_placesOf 48 = .ok (.iinc 4 1, 3) := by decide +kernel
theorem dX1_placesOf_51 : decode cX1_placesOf 51 = .ok (.goto (-31), 3) := by decide +kernel
theorem dX1_placesOf_54 : decode cX1_placesOf 54 = .ok (.iinc 3 1, 3) := by decide +kernel
theorem dX1_placesOf_57 : decode cX1_placesOf 57 = .ok (.goto (-53), 3) := by decide +kernel
theorem dX1_placesOf_60 : decode cX1_placesOf 60 = .ok (.iload_n 2, 1) := by decide +kernel
theorem dX1_placesOf_61 : decode cX1_placesOf 61 = .ok (.ireturn, 1) := by decide +kernel
set_option maxRecDepth 20000 in
theorem ggX1_shows_X1_colourAt : GoodIn wsX1_shows wsX1_colourAt := goodIn_r _ [7, 8, 2, 9, 10, 11] (by decide +kernel) (by decide +kernel)
set_option maxRecDepth 20000 in
theorem gX1_shows_X1_colourAt : GoodIn wsX1_shows (wsV RX1 42 RX1 yX1_colourAt wsX1_colourAt) := goodIn_app (goodIn_of _ (by decide +kernel)) ggX1_shows_X1_colourAt
theorem dX1_shows_0 : decode cX1_shows 0 = .ok (.iconst 0, 1) := by decide +kernel
theorem dX1_shows_1 : decode cX1_shows 1 = .ok (.istore 4, 2) := by decide +kernel
theorem dX1_shows_3 : decode cX1_shows 3 = .ok (.iload 4, 2) := by decide +kernel
theorem dX1_shows_5 : decode cX1_shows 5 = .ok (.aload_n 1, 1) := by decide +kernel
theorem dX1_shows_6 : decode cX1_shows 6 = .ok (.getfield 19, 3) := by decide +kernel
theorem dX1_shows_9 : decode cX1_shows 9 = .ok (.if_icmp .ge 52, 3) := by decide +kernel
theorem dX1_shows_12 : decode cX1_shows 12 = .ok (.iconst 0, 1) := by decide +kernel
theorem dX1_shows_13 : decode cX1_shows 13 = .ok (.istore 5, 2) := by decide +kernel
theorem dX1_shows_15 : decode cX1_shows 15 = .ok (.iload 5, 2) := by decide +kernel
theorem dX1_shows_17 : decode cX1_shows 17 = .ok (.aload_n 1, 1) := by decide +kernel
theorem dX1_shows_18 : decode cX1_shows 18 = .ok (.getfield 15, 3) := by decide +kernel
theorem dX1_shows_21 : decode cX1_shows 21 = .ok (.if_icmp .ge 34, 3) := by decide +kernel
theorem dX1_shows_24 : decode cX1_shows 24 = .ok (.aload_n 0, 1) := by decide +kernel
theorem dX1_shows_25 : decode cX1_shows 25 = .ok (.iload_n 2, 1) := by decide +kernel
theorem dX1_shows_26 : decode cX1_shows 26 = .ok (.iload 5, 2) := by decide +kernel
theorem dX1_shows_28 : decode cX1_shows 28 = .ok (.iadd, 1) := by decide +kernel
theorem dX1_shows_29 : decode cX1_shows 29 = .ok (.iload_n 3, 1) := by decide +kernel
theorem dX1_shows_30 : decode cX1_shows 30 = .ok (.iload 4, 2) := by decide +kernel
theorem dX1_shows_32 : decode cX1_shows 32 = .ok (.iadd, 1) := by decide +kernel
theorem dX1_shows_33 : decode cX1_shows 33 = .ok (.invokevirtual 42, 3) := by decide +kernel
theorem dX1_shows_36 : decode cX1_shows 36 = .ok (.aload_n 1, 1) := by decide +kernel
theorem dX1_shows_37 : decode cX1_shows 37 = .ok (.iload 5, 2) := by decide +kernel
theorem dX1_shows_39 : decode cX1_shows 39 = .ok (.iload 4, 2) := by decide +kernel
theorem dX1_shows_41 : decode cX1_shows 41 = .ok (.invokevirtual 42, 3) := by decide +kernel
theorem dX1_shows_44 : decode cX1_shows 44 = .ok (.if_icmp .eq 5, 3) := by decide +kernel
theorem dX1_shows_47 : decode cX1_shows 47 = .ok (.iconst 0, 1) := by decide +kernel
theorem dX1_shows_48 : decode cX1_shows 48 = .ok (.ireturn, 1) := by decide +kernel
theorem dX1_shows_49 : decode cX1_shows 49 = .ok (.iinc 5 1, 3) := by decide +kernel
theorem dX1_shows_52 : decode cX1_shows 52 = .ok (.goto (-37), 3) := by decide +kernel
theorem dX1_shows_55 : decode cX1_shows 55 = .ok (.iinc 4 1, 3) := by decide +kernel
theorem dX1_shows_58 : decode cX1_shows 58 = .ok (.goto (-55), 3) := by decide +kernel
theorem dX1_shows_61 : decode cX1_shows 61 = .ok (.iconst 1, 1) := by decide +kernel
theorem dX1_shows_62 : decode cX1_shows 62 = .ok (.ireturn, 1) := by decide +kernel
set_option maxRecDepth 20000 in
theorem ggX2_init_X1_init : GoodIn wsX2_init wsX1_init := goodIn_r _ [27, 28, 2, 3, 5, 29, 30, 31, 61, 62, 63] (by decide +kernel) (by decide +kernel)
set_option maxRecDepth 20000 in
theorem gX2_init_X1_init_n23 : GoodIn wsX2_init (wsX1_init) := ggX2_init_X1_init
set_option maxRecDepth 20000 in
theorem ggX2_init_X0_init : GoodIn wsX2_init wsX0_init := goodIn_r _ [33, 34, 2, 3, 5, 35, 36, 37, 38, 39, 40, 41, 42, 43, 44, 64, 65, 66, 67, 68, 69] (by decide +kernel) (by decide +kernel)
set_option maxRecDepth 20000 in
theorem gX2_init_X0_init_n46 : GoodIn wsX2_init (wsX0_init) := ggX2_init_X0_init
set_option maxRecDepth 20000 in
theorem ggX2_init_J7_fill_53178 : GoodIn wsX2_init wsJ7_fill_53178 := goodIn_r _ [44] (by decide +kernel) (by decide +kernel)
set_option maxRecDepth 20000 in
theorem gX2_init_J7_fill_53178 : GoodIn wsX2_init (va_wsS RX2 61 yJ7_fill_53178 wsJ7_fill_53178) := goodIn_app (goodIn_of _ (by decide +kernel)) ggX2_init_J7_fill_53178
theorem dX2_init_0 : decode cX2_init 0 = .ok (.aload_n 0, 1) := by decide +kernel
theorem dX2_init_1 : decode cX2_init 1 = .ok (.invokespecial 1, 3) := by decide +kernel
theorem dX2_init_4 : decode cX2_init 4 = .ok (.aload_n 0, 1) := by decide +kernel
theorem dX2_init_5 : decode cX2_init 5 = .ok (.bipush 7, 2) := by decide +kernel
theorem dX2_init_7 : decode cX2_init 7 = .ok (.bipush 8, 2) := by decide +kernel
theorem dX2_init_9 : decode cX2_init 9 = .ok (.multianewarray 9 2, 4) := by decide +kernel
theorem dX2_init_13 : decode cX2_init 13 = .ok (.putfield 11, 3) := by decide +kernel
theorem dX2_init_16 : decode cX2_init 16 = .ok (.aload_n 0, 1) := by decide +kernel
theorem dX2_init_17 : decode cX2_init 17 = .ok (.bipush 8, 2) := by decide +kernel
theorem dX2_init_19 : decode cX2_init 19 = .ok (.newarray .int, 2) := by decide +kernel
theorem dX2_init_21 : decode cX2_init 21 = .ok (.putfield 14, 3) := by decide +kernel
theorem dX2_init_24 : decode cX2_init 24 = .ok (.aload_n 0, 1) := by decide +kernel
theorem dX2_init_25 : decode cX2_init 25 = .ok (.bipush 8, 2) := by decide +kernel
theorem dX2_init_27 : decode cX2_init 27 = .ok (.newarray .int, 2) := by decide +kernel
theorem dX2_init_29 : decode cX2_init 29 = .ok (.putfield 18, 3) := by decide +kernel
theorem dX2_init_32 : decode cX2_init 32 = .ok (.aload_n 0, 1) := by decide +kernel
theorem dX2_init_33 : decode cX2_init 33 = .ok (.new 21, 3) := by decide +kernel
theorem dX2_init_36 : decode cX2_init 36 = .ok (.dup, 1) := by decide +kernel
theorem dX2_init_37 : decode cX2_init 37 = .ok (.invokespecial 23, 3) := by decide +kernel
theorem dX2_init_40 : decode cX2_init 40 = .ok (.putfield 24, 3) := by decide +kernel
theorem dX2_init_43 : decode cX2_init 43 = .ok (.aload_n 0, 1) := by decide +kernel
theorem dX2_init_44 : decode cX2_init 44 = .ok (.bipush 12, 2) := by decide +kernel
theorem dX2_init_46 : decode cX2_init 46 = .ok (.anewarray 21, 3) := by decide +kernel
theorem dX2_init_49 : decode cX2_init 49 = .ok (.putfield 28, 3) := by decide +kernel
theorem dX2_init_52 : decode cX2_init 52 = .ok (.aload_n 0, 1) := by decide +kernel
theorem dX2_init_53 : decode cX2_init 53 = .ok (.bipush 12, 2) := by decide +kernel
theorem dX2_init_55 : decode cX2_init 55 = .ok (.newarray .int, 2) := by decide +kernel
theorem dX2_init_57 : decode cX2_init 57 = .ok (.putfield 32, 3) := by decide +kernel
theorem dX2_init_60 : decode cX2_init 60 = .ok (.aload_n 0, 1) := by decide +kernel
theorem dX2_init_61 : decode cX2_init 61 = .ok (.bipush 20, 2) := by decide +kernel
theorem dX2_init_63 : decode cX2_init 63 = .ok (.newarray .int, 2) := by decide +kernel
theorem dX2_init_65 : decode cX2_init 65 = .ok (.putfield 35, 3) := by decide +kernel
theorem dX2_init_68 : decode cX2_init 68 = .ok (.aload_n 0, 1) := by decide +kernel
theorem dX2_init_69 : decode cX2_init 69 = .ok (.bipush 20, 2) := by decide +kernel
theorem dX2_init_71 : decode cX2_init 71 = .ok (.newarray .int, 2) := by decide +kernel
theorem dX2_init_73 : decode cX2_init 73 = .ok (.putfield 38, 3) := by decide +kernel
theorem dX2_init_76 : decode cX2_init 76 = .ok (.aload_n 0, 1) := by decide +kernel
theorem dX2_init_77 : decode cX2_init 77 = .ok (.bipush 7, 2) := by decide +kernel
theorem dX2_init_79 : decode cX2_init 79 = .ok (.newarray .int, 2) := by decide +kernel
theorem dX2_init_81 : decode cX2_init 81 = .ok (.putfield 41, 3) := by decide +kernel
theorem dX2_init_84 : decode cX2_init 84 = .ok (.aload_n 0, 1) := by decide +kernel
theorem dX2_init_85 : decode cX2_init 85 = .ok (.new 44, 3) := by decide +kernel
theorem dX2_init_88 : decode cX2_init 88 = .ok (.dup, 1) := by decide +kernel
theorem dX2_init_89 : decode cX2_init 89 = .ok (.invokespecial 46, 3) := by decide +kernel
theorem dX2_init_92 : decode cX2_init 92 = .ok (.putfield 47, 3) := by decide +kernel
theorem dX2_init_95 : decode cX2_init 95 = .ok (.aload_n 0, 1) := by decide +kernel
theorem dX2_init_96 : decode cX2_init 96 = .ok (.bipush 8, 2) := by decide +kernel
theorem dX2_init_98 : decode cX2_init 98 = .ok (.anewarray 21, 3) := by decide +kernel
theorem dX2_init_101 : decode cX2_init 101 = .ok (.putfield 51, 3) := by decide +kernel
theorem dX2_init_104 : decode cX2_init 104 = .ok (.aload_n 0, 1) := by decide +kernel
theorem dX2_init_105 : decode cX2_init 105 = .ok (.bipush 8, 2) := by decide +kernel
theorem dX2_init_107 : decode cX2_init 107 = .ok (.newarray .int, 2) := by decide +kernel
theorem dX2_init_109 : decode cX2_init 109 = .ok (.putfield 54, 3) := by decide +kernel
theorem dX2_init_112 : decode cX2_init 112 = .ok (.aload_n 0, 1) := by decide +kernel
theorem dX2_init_113 : decode cX2_init 113 = .ok (.bipush 7, 2) := by decide +kernel
theorem dX2_init_115 : decode cX2_init 115 = .ok (.newarray .long, 2) := by decide +kernel
theorem dX2_init_117 : decode cX2_init 117 = .ok (.putfield 57, 3) := by decide +kernel
theorem dX2_init_120 : decode cX2_init 120 = .ok (.iconst 0, 1) := by decide +kernel
theorem dX2_init_121 : decode cX2_init 121 = .ok (.istore_n 1, 1) := by decide +kernel
theorem dX2_init_122 : decode cX2_init 122 = .ok (.iload_n 1, 1) := by decide +kernel
theorem dX2_init_123 : decode cX2_init 123 = .ok (.bipush 12, 2) := by decide +kernel
theorem dX2_init_125 : decode cX2_init 125 = .ok (.if_icmp .ge 22, 3) := by decide +kernel
theorem dX2_init_128 : decode cX2_init 128 = .ok (.aload_n 0, 1) := by decide +kernel
theorem dX2_init_129 : decode cX2_init 129 = .ok (.getfield 28, 3) := by decide +kernel
theorem dX2_init_132 : decode cX2_init 132 = .ok (.iload_n 1, 1) := by decide +kernel
theorem dX2_init_133 : decode cX2_init 133 = .ok (.new 21, 3) := by decide +kernel
theorem dX2_init_136 : decode cX2_init 136 = .ok (.dup, 1) := by decide +kernel
theorem dX2_init_137 : decode cX2_init 137 = .ok (.invokespecial 23, 3) := by decide +kernel
theorem dX2_init_140 : decode cX2_init 140 = .ok (.aastore, 1) := by decide +kernel
theorem dX2_init_141 : decode cX2_init 141 = .ok (.iinc 1 1, 3) := by decide +kernel
theorem dX2_init_144 : decode cX2_init 144 = .ok (.goto (-22), 3) := by decide +kernel
theorem dX2_init_147 : decode cX2_init 147 = .ok (.iconst 0, 1) := by decide +kernel
theorem dX2_init_148 : decode cX2_init 148 = .ok (.istore_n 1, 1) := by decide +kernel
theorem dX2_init_149 : decode cX2_init 149 = .ok (.iload_n 1, 1) := by decide +kernel
theorem dX2_init_150 : decode cX2_init 150 = .ok (.bipush 8, 2) := by decide +kernel
theorem dX2_init_152 : decode cX2_init 152 = .ok (.if_icmp .ge 22, 3) := by decide +kernel
theorem dX2_init_155 : decode cX2_init 155 = .ok (.aload_n 0, 1) := by decide +kernel
theorem dX2_init_156 : decode cX2_init 156 = .ok (.getfield 51, 3) := by decide +kernel
theorem dX2_init_159 : decode cX2_init 159 = .ok (.iload_n 1, 1) := by decide +kernel
theorem dX2_init_160 : decode cX2_init 160 = .ok (.new 21, 3) := by decide +kernel
theorem dX2_init_163 : decode cX2_init 163 = .ok (.dup, 1) := by decide +kernel
theorem dX2_init_164 : decode cX2_init 164 = .ok (.invokespecial 23, 3) := by decide +kernel
theorem dX2_init_167 : decode cX2_init 167 = .ok (.aastore, 1) := by decide +kernel
theorem dX2_init_168 : decode cX2_init 168 = .ok (.iinc 1 1, 3) := by decide +kernel
theorem dX2_init_171 : decode cX2_init 171 = .ok (.goto (-22), 3) := by decide +kernel
theorem dX2_init_174 : decode cX2_init 174 = .ok (.aload_n 0, 1) := by decide +kernel
theorem dX2_init_175 : decode cX2_init 175 = .ok (.getfield 35, 3) := by decide +kernel
theorem dX2_init_178 : decode cX2_init 178 = .ok (.iconst (-1), 1) := by decide +kernel
theorem dX2_init_179 : decode cX2_init 179 = .ok (.invokestatic 61, 3) := by decide +kernel
theorem dX2_init_182 : decode cX2_init 182 = .ok (.return_, 1) := by decide +kernel
set_option maxRecDepth 20000 in
theorem ggX2_bring_X2_checkPerson : GoodIn wsX2_bring wsX2_checkPerson := goodIn_ca (goodIn_r _ [9, 10, 11] (by decide +kernel) (by decide +kernel)) (goodIn_sub (fun _ h => List.mem_cons_of_mem _ (List.mem_append_left _ (List.mem_append_right _ h))) (by decide +kernel))
set_option maxRecDepth 20000 in
theorem gX2_bring_X2_checkPerson : GoodIn wsX2_bring (va_wsS RX2 67 yX2_checkPerson wsX2_checkPerson) := goodIn_app (goodIn_of _ (by decide +kernel)) ggX2_bring_X2_checkPerson
set_option maxRecDepth 20000 in
theorem ggX2_bring_X2_checkColour : GoodIn wsX2_bring wsX2_checkColour := goodIn_ca (goodIn_r _ [14, 10, 11] (by decide +kernel) (by decide +kernel)) (goodIn_sub (fun _ h => List.mem_cons_of_mem _ (List.mem_append_left _ (List.mem_append_right _ h))) (by decide +kernel))
set_option maxRecDepth 20000 in
theorem gX2_bring_X2_checkColour : GoodIn wsX2_bring (va_wsS RX2 71 yX2_checkColour wsX2_checkColour) := goodIn_app (goodIn_of _ (by decide +kernel)) ggX2_bring_X2_checkColour
set_option maxRecDepth 20000 in
theorem ggX2_bring_X2_checkRange : GoodIn wsX2_bring wsX2_checkRange := goodIn_ca (goodIn_r _ [17, 18, 19] (by decide +kernel) (by decide +kernel)) (goodIn_sub (fun _ h => List.mem_cons_of_mem _ (List.mem_append_right _ h)) (by decide +kernel))
set_option maxRecDepth 20000 in
theorem gX2_bring_X2_checkRange : GoodIn wsX2_bring (va_wsS RX2 74 yX2_checkRange wsX2_checkRange) := goodIn_app (goodIn_of _ (by decide +kernel)) ggX2_bring_X2_checkRange
theorem dX2_bring_0 : decode cX2_bring 0 = .ok (.iload_n 1, 1) := by decide +kernel
theorem dX2_bring_1 : decode cX2_bring 1 = .ok (.invokestatic 67, 3) := by decide +kernel
theorem dX2_bring_4 : decode cX2_bring 4 = .ok (.iload_n 2, 1) := by decide +kernel
theorem dX2_bring_5 : decode cX2_bring 5 = .ok (.invokestatic 71, 3) := by decide +kernel
theorem dX2_bring_8 : decode cX2_bring 8 = .ok (.iload_n 3, 1) := by decide +kernel
theorem dX2_bring_9 : decode cX2_bring 9 = .ok (.iconst 1, 1) := by decide +kernel
theorem dX2_bring_10 : decode cX2_bring 10 = .ok (.sipush 1000, 3) := by decide +kernel
theorem dX2_bring_13 : decode cX2_bring 13 = .ok (.invokestatic 74, 3) := by decide +kernel
theorem dX2_bring_16 : decode cX2_bring 16 = .ok (.aload_n 0, 1) := by decide +kernel
theorem dX2_bring_17 : decode cX2_bring 17 = .ok (.getfield 11, 3) := by decide +kernel
theorem dX2_bring_20 : decode cX2_bring 20 = .ok (.iload_n 1, 1) := by decide +kernel
theorem dX2_bring_21 : decode cX2_bring 21 = .ok (.aaload, 1) := by decide +kernel
theorem dX2_bring_22 : decode cX2_bring 22 = .ok (.iload_n 2, 1) := by decide +kernel
theorem dX2_bring_23 : decode cX2_bring 23 = .ok (.iaload, 1) := by decide +kernel
theorem dX2_bring_24 : decode cX2_bring 24 = .ok (.iload_n 3, 1) := by decide +kernel
theorem dX2_bring_25 : decode cX2_bring 25 = .ok (.iadd, 1) := by decide +kernel
theorem dX2_bring_26 : decode cX2_bring 26 = .ok (.istore 4, 2) := by decide +kernel
theorem dX2_bring_28 : decode cX2_bring 28 = .ok (.iload 4, 2) := by decide +kernel
theorem dX2_bring_30 : decode cX2_bring 30 = .ok (.ldc 78, 2) := by decide +kernel
theorem dX2_bring_32 : decode cX2_bring 32 = .ok (.if_icmp .le 13, 3) := by decide +kernel
theorem dX2_bring_35 : decode cX2_bring 35 = .ok (.new 79, 3) := by decide +kernel
theorem dX2_bring_38 : decode cX2_bring 38 = .ok (.dup, 1) := by decide +kernel
theorem dX2_bring_39 : decode cX2_bring 39 = .ok (.ldc 81, 2) := by decide +kernel
theorem dX2_bring_41 : decode cX2_bring 41 = .ok (.invokespecial 83, 3) := by decide +kernel
theorem dX2_bring_44 : decode cX2_bring 44 = .ok (.athrow, 1) := by decide +kernel
theorem dX2_bring_45 : decode cX2_bring 45 = .ok (.aload_n 0, 1) := by decide +kernel
theorem dX2_bring_46 : decode cX2_bring 46 = .ok (.getfield 11, 3) := by decide +kernel
theorem dX2_bring_49 : decode cX2_bring 49 = .ok (.iload_n 1, 1) := by decide +kernel
theorem dX2_bring_50 : decode cX2_bring 50 = .ok (.aaload, 1) := by decide +kernel
theorem dX2_bring_51 : decode cX2_bring 51 = .ok (.iload_n 2, 1) := by decide +kernel
theorem dX2_bring_52 : decode cX2_bring 52 = .ok (.iload 4, 2) := by decide +kernel
theorem dX2_bring_54 : decode cX2_bring 54 = .ok (.iastore, 1) := by decide +kernel
theorem dX2_bring_55 : decode cX2_bring 55 = .ok (.aload_n 0, 1) := by decide +kernel
theorem dX2_bring_56 : decode cX2_bring 56 = .ok (.getfield 18, 3) := by decide +kernel
theorem dX2_bring_59 : decode cX2_bring 59 = .ok (.iload_n 2, 1) := by decide +kernel
theorem dX2_bring_60 : decode cX2_bring 60 = .ok (.dup2, 1) := by decide +kernel
theorem dX2_bring_61 : decode cX2_bring 61 = .ok (.iaload, 1) := by decide +kernel
theorem dX2_bring_62 : decode cX2_bring 62 = .ok (.iload_n 3, 1) := by decide +kernel
theorem dX2_bring_63 : decode cX2_bring 63 = .ok (.iadd, 1) := by decide +kernel
theorem dX2_bring_64 : decode cX2_bring 64 = .ok (.iastore, 1) := by decide +kernel
theorem dX2_bring_65 : decode cX2_bring 65 = .ok (.iload 4, 2) := by decide +kernel
theorem dX2_bring_67 : decode cX2_bring 67 = .ok (.ireturn, 1) := by decide +kernel
set_option maxRecDepth 20000 in
theorem ggX2_lay_X2_checkPerson : GoodIn wsX2_lay wsX2_checkPerson := goodIn_ca (goodIn_r _ [9, 10, 11] (by decide +kernel) (by decide +kernel)) (goodIn_sub (fun _ h => List.mem_cons_of_mem _ (List.mem_append_left _ (List.mem_append_right _ h))) (by decide +kernel))
set_option maxRecDepth 20000 in
theorem gX2_lay_X2_checkPerson : GoodIn wsX2_lay (va_wsS RX2 67 yX2_checkPerson wsX2_checkPerson) := goodIn_app (goodIn_of _ (by decide +kernel)) ggX2_lay_X2_checkPerson
set_option maxRecDepth 20000 in
theorem ggX2_lay_X2_checkColour : GoodIn wsX2_lay wsX2_checkColour := goodIn_ca (goodIn_r _ [14, 10, 11] (by decide +kernel) (by decide +kernel)) (goodIn_sub (fun _ h => List.mem_cons_of_mem _ (List.mem_append_left _ (List.mem_append_right _ h))) (by decide +kernel))
set_option maxRecDepth 20000 in
theorem gX2_lay_X2_checkColour : GoodIn wsX2_lay (va_wsS RX2 71 yX2_checkColour wsX2_checkColour) := goodIn_app (goodIn_of _ (by decide +kernel)) ggX2_lay_X2_checkColour
set_option maxRecDepth 20000 in
theorem ggX2_lay_X2_checkRange : GoodIn wsX2_lay wsX2_checkRange := goodIn_ca (goodIn_r _ [17, 18, 19] (by decide +kernel) (by decide +kernel)) (goodIn_sub (fun _ h => List.mem_cons_of_mem _ (List.mem_append_right _ h)) (by decide +kernel))
set_option maxRecDepth 20000 in
theorem gX2_lay_X2_checkRange : GoodIn wsX2_lay (va_wsS RX2 74 yX2_checkRange wsX2_checkRange) := goodIn_app (goodIn_of _ (by decide +kernel)) ggX2_lay_X2_checkRange
theorem dX2_lay_0 : decode cX2_lay 0 = .ok (.iload_n 1, 1) := by decide +kernel
theorem dX2_lay_1 : decode cX2_lay 1 = .ok (.invokestatic 67, 3) := by decide +kernel
theorem dX2_lay_4 : decode cX2_lay 4 = .ok (.iload_n 2, 1) := by decide +kernel
theorem dX2_lay_5 : decode cX2_lay 5 = .ok (.invokestatic 71, 3) := by decide +kernel
theorem dX2_lay_8 : decode cX2_lay 8 = .ok (.iload_n 3, 1) := by decide +kernel
theorem dX2_lay_9 : decode cX2_lay 9 = .ok (.sipush (-1000), 3) := by decide +kernel
theorem dX2_lay_12 : decode cX2_lay 12 = .ok (.sipush 1000, 3) := by decide +kernel
theorem dX2_lay_15 : decode cX2_lay 15 = .ok (.invokestatic 74, 3) := by decide +kernel
theorem dX2_lay_18 : decode cX2_lay 18 = .ok (.aload_n 0, 1) := by decide +kernel
theorem dX2_lay_19 : decode cX2_lay 19 = .ok (.getfield 11, 3) := by decide +kernel
theorem dX2_lay_22 : decode cX2_lay 22 = .ok (.iload_n 1, 1) := by decide +kernel
theorem dX2_lay_23 : decode cX2_lay 23 = .ok (.aaload, 1) := by decide +kernel
theorem dX2_lay_24 : decode cX2_lay 24 = .ok (.iload_n 2, 1) := by decide +kernel
theorem dX2_lay_25 : decode cX2_lay 25 = .ok (.iaload, 1) := by decide +kernel
theorem dX2_lay_26 : decode cX2_lay 26 = .ok (.iload_n 3, 1) := by decide +kernel
theorem dX2_lay_27 : decode cX2_lay 27 = .ok (.isub, 1) := by decide +kernel
theorem dX2_lay_28 : decode cX2_lay 28 = .ok (.istore 4, 2) := by decide +kernel
theorem dX2_lay_30 : decode cX2_lay 30 = .ok (.aload_n 0, 1) := by decide +kernel
theorem dX2_lay_31 : decode cX2_lay 31 = .ok (.getfield 14, 3) := by decide +kernel
theorem dX2_lay_34 : decode cX2_lay 34 = .ok (.iload_n 2, 1) := by decide +kernel
theorem dX2_lay_35 : decode cX2_lay 35 = .ok (.iaload, 1) := by decide +kernel
theorem dX2_lay_36 : decode cX2_lay 36 = .ok (.iload_n 3, 1) := by decide +kernel
theorem dX2_lay_37 : decode cX2_lay 37 = .ok (.iadd, 1) := by decide +kernel
theorem dX2_lay_38 : decode cX2_lay 38 = .ok (.istore 5, 2) := by decide +kernel
theorem dX2_lay_40 : decode cX2_lay 40 = .ok (.iload 4, 2) := by decide +kernel
theorem dX2_lay_42 : decode cX2_lay 42 = .ok (.ifCond .lt 8, 3) := by decide +kernel
theorem dX2_lay_45 : decode cX2_lay 45 = .ok (.iload 5, 2) := by decide +kernel
theorem dX2_lay_47 : decode cX2_lay 47 = .ok (.ifCond .ge 13, 3) := by decide +kernel
theorem dX2_lay_50 : decode cX2_lay 50 = .ok (.new 79, 3) := by decide +kernel
theorem dX2_lay_53 : decode cX2_lay 53 = .ok (.dup, 1) := by decide +kernel
theorem dX2_lay_54 : decode cX2_lay 54 = .ok (.ldc 86, 2) := by decide +kernel
theorem dX2_lay_56 : decode cX2_lay 56 = .ok (.invokespecial 83, 3) := by decide +kernel
theorem dX2_lay_59 : decode cX2_lay 59 = .ok (.athrow, 1) := by decide +kernel
theorem dX2_lay_60 : decode cX2_lay 60 = .ok (.iload 4, 2) := by decide +kernel
theorem dX2_lay_62 : decode cX2_lay 62 = .ok (.ldc 78, 2) := by decide +kernel
theorem dX2_lay_64 : decode cX2_lay 64 = .ok (.if_icmp .le 13, 3) := by decide +kernel
theorem dX2_lay_67 : decode cX2_lay 67 = .ok (.new 79, 3) := by decide +kernel
theorem dX2_lay_70 : decode cX2_lay 70 = .ok (.dup, 1) := by decide +kernel
theorem dX2_lay_71 : decode cX2_lay 71 = .ok (.ldc 81, 2) := by decide +kernel
theorem dX2_lay_73 : decode cX2_lay 73 = .ok (.invokespecial 83, 3) := by decide +kernel
theorem dX2_lay_76 : decode cX2_lay 76 = .ok (.athrow, 1) := by decide +kernel
theorem dX2_lay_77 : decode cX2_lay 77 = .ok (.aload_n 0, 1) := by decide +kernel
theorem dX2_lay_78 : decode cX2_lay 78 = .ok (.getfield 11, 3) := by decide +kernel
theorem dX2_lay_81 : decode cX2_lay 81 = .ok (.iload_n 1, 1) := by decide +kernel
theorem dX2_lay_82 : decode cX2_lay 82 = .ok (.aaload, 1) := by decide +kernel
theorem dX2_lay_83 : decode cX2_lay 83 = .ok (.iload_n 2, 1) := by decide +kernel
theorem dX2_lay_84 : decode cX2_lay 84 = .ok (.iload 4, 2) := by decide +kernel
theorem dX2_lay_86 : decode cX2_lay 86 = .ok (.iastore, 1) := by decide +kernel
theorem dX2_lay_87 : decode cX2_lay 87 = .ok (.aload_n 0, 1) := by decide +kernel
theorem dX2_lay_88 : decode cX2_lay 88 = .ok (.getfield 14, 3) := by decide +kernel
theorem dX2_lay_91 : decode cX2_lay 91 = .ok (.iload_n 2, 1) := by decide +kernel
theorem dX2_lay_92 : decode cX2_lay 92 = .ok (.iload 5, 2) := by decide +kernel
theorem dX2_lay_94 : decode cX2_lay 94 = .ok (.iastore, 1) := by decide +kernel
theorem dX2_lay_95 : decode cX2_lay 95 = .ok (.iload 5, 2) := by decide +kernel
theorem dX2_lay_97 : decode cX2_lay 97 = .ok (.ireturn, 1) := by decide +kernel
set_option maxRecDepth 20000 in
theorem ggX2_hand_X2_checkPerson : GoodIn wsX2_hand wsX2_checkPerson := goodIn_ca (goodIn_r _ [5, 6, 7] (by decide +kernel) (by decide +kernel)) (goodIn_sub (fun _ h => List.mem_cons_of_mem _ (List.mem_append_right _ h)) (by decide +kernel))
set_option maxRecDepth 20000 in
theorem gX2_hand_X2_checkPerson : GoodIn wsX2_hand (va_wsS RX2 67 yX2_checkPerson wsX2_checkPerson) := goodIn_app (goodIn_of _ (by decide +kernel)) ggX2_hand_X2_checkPerson
set_option maxRecDepth 20000 in
theorem ggX2_hand_X2_checkColour : GoodIn wsX2_hand wsX2_checkColour := goodIn_ca (goodIn_r _ [10, 6, 7] (by decide +kernel) (by decide +kernel)) (goodIn_sub (fun _ h => List.mem_cons_of_mem _ (List.mem_append_right _ h)) (by decide +kernel))
set_option maxRecDepth 20000 in
theorem gX2_hand_X2_checkColour : GoodIn wsX2_hand (va_wsS RX2 71 yX2_checkColour wsX2_checkColour) := goodIn_app (goodIn_of _ (by decide +kernel)) ggX2_hand_X2_checkColour
theorem dX2_hand_0 : decode cX2_hand 0 = .ok (.iload_n 1, 1) := by decide +kernel
theorem dX2_hand_1 : decode cX2_hand 1 = .ok (.invokestatic 67, 3) := by decide +kernel
theorem dX2_hand_4 : decode cX2_hand 4 = .ok (.iload_n 2, 1) := by decide +kernel
theorem dX2_hand_5 : decode cX2_hand 5 = .ok (.invokestatic 71, 3) := by decide +kernel
theorem dX2_hand_8 : decode cX2_hand 8 = .ok (.aload_n 0, 1) := by decide +kernel
theorem dX2_hand_9 : decode cX2_hand 9 = .ok (.getfield 11, 3) := by decide +kernel
theorem dX2_hand_12 : decode cX2_hand 12 = .ok (.iload_n 1, 1) := by decide +kernel
theorem dX2_hand_13 : decode cX2_hand 13 = .ok (.aaload, 1) := by decide +kernel
theorem dX2_hand_14 : decode cX2_hand 14 = .ok (.iload_n 2, 1) := by decide +kernel
theorem dX2_hand_15 : decode cX2_hand 15 = .ok (.iaload, 1) := by decide +kernel
theorem dX2_hand_16 : decode cX2_hand 16 = .ok (.ireturn, 1) := by decide +kernel
set_option maxRecDepth 20000 in
theorem ggX2_beads_X2_checkColour : GoodIn wsX2_beads wsX2_checkColour := goodIn_ca (goodIn_r _ [8, 9, 10] (by decide +kernel) (by decide +kernel)) (goodIn_sub (fun _ h => List.mem_cons_of_mem _ (List.mem_append_right _ h)) (by decide +kernel))
set_option maxRecDepth 20000 in
theorem gX2_beads_X2_checkColour : GoodIn wsX2_beads (va_wsS RX2 71 yX2_checkColour wsX2_checkColour) := goodIn_app (goodIn_of _ (by decide +kernel)) ggX2_beads_X2_checkColour
set_option maxRecDepth 20000 in
theorem ggX2_beads_X2_isBelt : GoodIn wsX2_beads wsX2_isBelt := goodIn_r _ [14, 4, 26, 27, 28, 29, 30, 31, 32, 33, 34, 35, 36, 37, 38, 39, 40] (by decide +kernel) (by decide +kernel)
set_option maxRecDepth 20000 in
theorem gX2_beads_X2_isBelt : GoodIn wsX2_beads (wsV RX2 88 RX2 yX2_isBelt wsX2_isBelt) := goodIn_app (goodIn_of _ (by decide +kernel)) ggX2_beads_X2_isBelt
set_option maxRecDepth 20000 in
theorem ggX2_beads_X1_cellsOf : GoodIn wsX2_beads wsX1_cellsOf := goodIn_r _ [18, 19, 20, 21, 22, 16, 23, 24, 25, 41, 42, 43] (by decide +kernel) (by decide +kernel)
set_option maxRecDepth 20000 in
theorem gX2_beads_X1_cellsOf_n92 : GoodIn wsX2_beads (wsX1_cellsOf) := ggX2_beads_X1_cellsOf
theorem dX2_beads_0 : decode cX2_beads 0 = .ok (.iload_n 1, 1) := by decide +kernel
theorem dX2_beads_1 : decode cX2_beads 1 = .ok (.invokestatic 71, 3) := by decide +kernel
theorem dX2_beads_4 : decode cX2_beads 4 = .ok (.aload_n 0, 1) := by decide +kernel
theorem dX2_beads_5 : decode cX2_beads 5 = .ok (.getfield 14, 3) := by decide +kernel
theorem dX2_beads_8 : decode cX2_beads 8 = .ok (.iload_n 1, 1) := by decide +kernel
theorem dX2_beads_9 : decode cX2_beads 9 = .ok (.iaload, 1) := by decide +kernel
theorem dX2_beads_10 : decode cX2_beads 10 = .ok (.istore_n 2, 1) := by decide +kernel
theorem dX2_beads_11 : decode cX2_beads 11 = .ok (.iconst 0, 1) := by decide +kernel
theorem dX2_beads_12 : decode cX2_beads 12 = .ok (.istore_n 3, 1) := by decide +kernel
theorem dX2_beads_13 : decode cX2_beads 13 = .ok (.iload_n 3, 1) := by decide +kernel
theorem dX2_beads_14 : decode cX2_beads 14 = .ok (.bipush 7, 2) := by decide +kernel
theorem dX2_beads_16 : decode cX2_beads 16 = .ok (.if_icmp .ge 20, 3) := by decide +kernel
theorem dX2_beads_19 : decode cX2_beads 19 = .ok (.iload_n 2, 1) := by decide +kernel
theorem dX2_beads_20 : decode cX2_beads 20 = .ok (.aload_n 0, 1) := by decide +kernel
theorem dX2_beads_21 : decode cX2_beads 21 = .ok (.getfield 11, 3) := by decide +kernel
theorem dX2_beads_24 : decode cX2_beads 24 = .ok (.iload_n 3, 1) := by decide +kernel
theorem dX2_beads_25 : decode cX2_beads 25 = .ok (.aaload, 1) := by decide +kernel
theorem dX2_beads_26 : decode cX2_beads 26 = .ok (.iload_n 1, 1) := by decide +kernel
theorem dX2_beads_27 : decode cX2_beads 27 = .ok (.iaload, 1) := by decide +kernel
theorem dX2_beads_28 : decode cX2_beads 28 = .ok (.iadd, 1) := by decide +kernel
theorem dX2_beads_29 : decode cX2_beads 29 = .ok (.istore_n 2, 1) := by decide +kernel
theorem dX2_beads_30 : decode cX2_beads 30 = .ok (.iinc 3 1, 3) := by decide +kernel
theorem dX2_beads_33 : decode cX2_beads 33 = .ok (.goto (-20), 3) := by decide +kernel
theorem dX2_beads_36 : decode cX2_beads 36 = .ok (.iconst 0, 1) := by decide +kernel
theorem dX2_beads_37 : decode cX2_beads 37 = .ok (.istore_n 3, 1) := by decide +kernel
theorem dX2_beads_38 : decode cX2_beads 38 = .ok (.iload_n 3, 1) := by decide +kernel
theorem dX2_beads_39 : decode cX2_beads 39 = .ok (.bipush 20, 2) := by decide +kernel
theorem dX2_beads_41 : decode cX2_beads 41 = .ok (.if_icmp .ge 35, 3) := by decide +kernel
theorem dX2_beads_44 : decode cX2_beads 44 = .ok (.aload_n 0, 1) := by decide +kernel
theorem dX2_beads_45 : decode cX2_beads 45 = .ok (.iload_n 3, 1) := by decide +kernel
theorem dX2_beads_46 : decode cX2_beads 46 = .ok (.invokevirtual 88, 3) := by decide +kernel
theorem dX2_beads_49 : decode cX2_beads 49 = .ok (.ifCond .eq 21, 3) := by decide +kernel
theorem dX2_beads_52 : decode cX2_beads 52 = .ok (.iload_n 2, 1) := by decide +kernel
theorem dX2_beads_53 : decode cX2_beads 53 = .ok (.aload_n 0, 1) := by decide +kernel
theorem dX2_beads_54 : decode cX2_beads 54 = .ok (.getfield 28, 3) := by decide +kernel
theorem dX2_beads_57 : decode cX2_beads 57 = .ok (.aload_n 0, 1) := by decide +kernel
theorem dX2_beads_58 : decode cX2_beads 58 = .ok (.getfield 35, 3) := by decide +kernel
theorem dX2_beads_61 : decode cX2_beads 61 = .ok (.iload_n 3, 1) := by decide +kernel
theorem dX2_beads_62 : decode cX2_beads 62 = .ok (.iaload, 1) := by decide +kernel
theorem dX2_beads_63 : decode cX2_beads 63 = .ok (.aaload, 1) := by decide +kernel
theorem dX2_beads_64 : decode cX2_beads 64 = .ok (.iload_n 1, 1) := by decide +kernel
theorem dX2_beads_65 : decode cX2_beads 65 = .ok (.invokevirtual 92, 3) := by decide +kernel
theorem dX2_beads_68 : decode cX2_beads 68 = .ok (.iadd, 1) := by decide +kernel
theorem dX2_beads_69 : decode cX2_beads 69 = .ok (.istore_n 2, 1) := by decide +kernel
theorem dX2_beads_70 : decode cX2_beads 70 = .ok (.iinc 3 1, 3) := by decide +kernel
theorem dX2_beads_73 : decode cX2_beads 73 = .ok (.goto (-35), 3) := by decide +kernel
theorem dX2_beads_76 : decode cX2_beads 76 = .ok (.iload_n 2, 1) := by decide +kernel
theorem dX2_beads_77 : decode cX2_beads 77 = .ok (.ireturn, 1) := by decide +kernel
set_option maxRecDepth 20000 in
theorem ggX2_brought_X2_checkColour : GoodIn wsX2_brought wsX2_checkColour := goodIn_ca (goodIn_r _ [5, 6, 7] (by decide +kernel) (by decide +kernel)) (goodIn_sub (fun _ h => List.mem_cons_of_mem _ (List.mem_append_right _ h)) (by decide +kernel))
set_option maxRecDepth 20000 in
theorem gX2_brought_X2_checkColour : GoodIn wsX2_brought (va_wsS RX2 71 yX2_checkColour wsX2_checkColour) := goodIn_app (goodIn_of _ (by decide +kernel)) ggX2_brought_X2_checkColour
theorem dX2_brought_0 : decode cX2_brought 0 = .ok (.iload_n 1, 1) := by decide +kernel
theorem dX2_brought_1 : decode cX2_brought 1 = .ok (.invokestatic 71, 3) := by decide +kernel
theorem dX2_brought_4 : decode cX2_brought 4 = .ok (.aload_n 0, 1) := by decide +kernel
theorem dX2_brought_5 : decode cX2_brought 5 = .ok (.getfield 18, 3) := by decide +kernel
theorem dX2_brought_8 : decode cX2_brought 8 = .ok (.iload_n 1, 1) := by decide +kernel
theorem dX2_brought_9 : decode cX2_brought 9 = .ok (.iaload, 1) := by decide +kernel
theorem dX2_brought_10 : decode cX2_brought 10 = .ok (.ireturn, 1) := by decide +kernel
set_option maxRecDepth 20000 in
theorem ggX2_draft_X2_checkRange : GoodIn wsX2_draft wsX2_checkRange := goodIn_ca (goodIn_r _ [5, 6, 7] (by decide +kernel) (by decide +kernel)) (goodIn_sub (fun _ h => List.mem_cons_of_mem _ (List.mem_append_right _ h)) (by decide +kernel))
set_option maxRecDepth 20000 in
theorem gX2_draft_X2_checkRange : GoodIn wsX2_draft (va_wsS RX2 74 yX2_checkRange wsX2_checkRange) := goodIn_app (goodIn_of _ (by decide +kernel)) ggX2_draft_X2_checkRange
set_option maxRecDepth 20000 in
theorem ggX2_draft_X1_begin : GoodIn wsX2_draft wsX1_begin := goodIn_r _ [11, 12, 13, 14, 15, 16, 17, 18, 37, 38, 39] (by decide +kernel) (by decide +kernel)
set_option maxRecDepth 20000 in
theorem gX2_draft_X1_begin_n96 : GoodIn wsX2_draft (wsX1_begin) := ggX2_draft_X1_begin
set_option maxRecDepth 20000 in
theorem ggX2_draft_X1_size : GoodIn wsX2_draft wsX1_size := goodIn_r _ [21, 12, 13, 37, 38, 39] (by decide +kernel) (by decide +kernel)
set_option maxRecDepth 20000 in
theorem gX2_draft_X1_size_n100 : GoodIn wsX2_draft (wsX1_size) := ggX2_draft_X1_size
theorem dX2_draft_0 : decode cX2_draft 0 = .ok (.iload_n 1, 1) := by decide +kernel
theorem dX2_draft_1 : decode cX2_draft 1 = .ok (.iconst 1, 1) := by decide +kernel
theorem dX2_draft_2 : decode cX2_draft 2 = .ok (.bipush 8, 2) := by decide +kernel
theorem dX2_draft_4 : decode cX2_draft 4 = .ok (.invokestatic 74, 3) := by decide +kernel
theorem dX2_draft_7 : decode cX2_draft 7 = .ok (.iload_n 2, 1) := by decide +kernel
theorem dX2_draft_8 : decode cX2_draft 8 = .ok (.iconst 1, 1) := by decide +kernel
theorem dX2_draft_9 : decode cX2_draft 9 = .ok (.bipush 6, 2) := by decide +kernel
theorem dX2_draft_11 : decode cX2_draft 11 = .ok (.invokestatic 74, 3) := by decide +kernel
theorem dX2_draft_14 : decode cX2_draft 14 = .ok (.aload_n 0, 1) := by decide +kernel
theorem dX2_draft_15 : decode cX2_draft 15 = .ok (.getfield 24, 3) := by decide +kernel
theorem dX2_draft_18 : decode cX2_draft 18 = .ok (.iload_n 1, 1) := by decide +kernel
theorem dX2_draft_19 : decode cX2_draft 19 = .ok (.iload_n 2, 1) := by decide +kernel
theorem dX2_draft_20 : decode cX2_draft 20 = .ok (.invokevirtual 96, 3) := by decide +kernel
theorem dX2_draft_23 : decode cX2_draft 23 = .ok (.aload_n 0, 1) := by decide +kernel
theorem dX2_draft_24 : decode cX2_draft 24 = .ok (.getfield 24, 3) := by decide +kernel
theorem dX2_draft_27 : decode cX2_draft 27 = .ok (.invokevirtual 100, 3) := by decide +kernel
theorem dX2_draft_30 : decode cX2_draft 30 = .ok (.ireturn, 1) := by decide +kernel
set_option maxRecDepth 20000 in
theorem ggX2_bead_X1_hasCell : GoodIn wsX2_bead wsX1_hasCell := goodIn_r _ [7, 8, 9, 36, 37, 38] (by decide +kernel) (by decide +kernel)
set_option maxRecDepth 20000 in
theorem gX2_bead_X1_hasCell_n104 : GoodIn wsX2_bead (wsX1_hasCell) := ggX2_bead_X1_hasCell
set_option maxRecDepth 20000 in
theorem ggX2_bead_X2_checkColour : GoodIn wsX2_bead wsX2_checkColour := goodIn_ca (goodIn_r _ [13, 1, 2] (by decide +kernel) (by decide +kernel)) (goodIn_sub (fun _ h => List.mem_cons_of_mem _ (List.mem_append_right _ h)) (by decide +kernel))
set_option maxRecDepth 20000 in
theorem gX2_bead_X2_checkColour : GoodIn wsX2_bead (va_wsS RX2 71 yX2_checkColour wsX2_checkColour) := goodIn_app (goodIn_of _ (by decide +kernel)) ggX2_bead_X2_checkColour
set_option maxRecDepth 20000 in
theorem ggX2_bead_X1_colourAt : GoodIn wsX2_bead wsX1_colourAt := goodIn_r _ [16, 17, 8, 36, 37, 38] (by decide +kernel) (by decide +kernel)
set_option maxRecDepth 20000 in
theorem gX2_bead_X1_colourAt_n113 : GoodIn wsX2_bead (wsX1_colourAt) := ggX2_bead_X1_colourAt
set_option maxRecDepth 20000 in
theorem ggX2_bead_X1_paint : GoodIn wsX2_bead wsX1_paint := goodIn_r _ [20, 17, 8, 36, 37, 38] (by decide +kernel) (by decide +kernel)
set_option maxRecDepth 20000 in
theorem gX2_bead_X1_paint_n117 : GoodIn wsX2_bead (wsX1_paint) := ggX2_bead_X1_paint
theorem dX2_bead_0 : decode cX2_bead 0 = .ok (.aload_n 0, 1) := by decide +kernel
theorem dX2_bead_1 : decode cX2_bead 1 = .ok (.getfield 24, 3) := by decide +kernel
theorem dX2_bead_4 : decode cX2_bead 4 = .ok (.iload_n 1, 1) := by decide +kernel
theorem dX2_bead_5 : decode cX2_bead 5 = .ok (.iload_n 2, 1) := by decide +kernel
theorem dX2_bead_6 : decode cX2_bead 6 = .ok (.invokevirtual 104, 3) := by decide +kernel
theorem dX2_bead_9 : decode cX2_bead 9 = .ok (.ifCond .ne 13, 3) := by decide +kernel
theorem dX2_bead_12 : decode cX2_bead 12 = .ok (.new 108, 3) := by decide +kernel
theorem dX2_bead_15 : decode cX2_bead 15 = .ok (.dup, 1) := by decide +kernel
theorem dX2_bead_16 : decode cX2_bead 16 = .ok (.ldc 110, 2) := by decide +kernel
theorem dX2_bead_18 : decode cX2_bead 18 = .ok (.invokespecial 112, 3) := by decide +kernel
theorem dX2_bead_21 : decode cX2_bead 21 = .ok (.athrow, 1) := by decide +kernel
theorem dX2_bead_22 : decode cX2_bead 22 = .ok (.iload_n 3, 1) := by decide +kernel
theorem dX2_bead_23 : decode cX2_bead 23 = .ok (.invokestatic 71, 3) := by decide +kernel
theorem dX2_bead_26 : decode cX2_bead 26 = .ok (.aload_n 0, 1) := by decide +kernel
theorem dX2_bead_27 : decode cX2_bead 27 = .ok (.getfield 24, 3) := by decide +kernel
theorem dX2_bead_30 : decode cX2_bead 30 = .ok (.iload_n 1, 1) := by decide +kernel
theorem dX2_bead_31 : decode cX2_bead 31 = .ok (.iload_n 2, 1) := by decide +kernel
theorem dX2_bead_32 : decode cX2_bead 32 = .ok (.invokevirtual 113, 3) := by decide +kernel
theorem dX2_bead_35 : decode cX2_bead 35 = .ok (.istore 4, 2) := by decide +kernel
theorem dX2_bead_37 : decode cX2_bead 37 = .ok (.aload_n 0, 1) := by decide +kernel
theorem dX2_bead_38 : decode cX2_bead 38 = .ok (.getfield 24, 3) := by decide +kernel
theorem dX2_bead_41 : decode cX2_bead 41 = .ok (.iload_n 1, 1) := by decide +kernel
theorem dX2_bead_42 : decode cX2_bead 42 = .ok (.iload_n 2, 1) := by decide +kernel
theorem dX2_bead_43 : decode cX2_bead 43 = .ok (.iload_n 3, 1) := by decide +kernel
theorem dX2_bead_44 : decode cX2_bead 44 = .ok (.invokevirtual 117, 3) := by decide +kernel
theorem dX2_bead_47 : decode cX2_bead 47 = .ok (.iload 4, 2) := by decide +kernel
theorem dX2_bead_49 : decode cX2_bead 49 = .ok (.ireturn, 1) := by decide +kernel
set_option maxRecDepth 20000 in
theorem ggX2_pattern_X2_checkPerson : GoodIn wsX2_pattern wsX2_checkPerson := goodIn_ca (goodIn_r _ [10, 11, 12] (by decide +kernel) (by decide +kernel)) (goodIn_sub (fun _ h => List.mem_cons_of_mem _ (List.mem_append_right _ h)) (by decide +kernel))
set_option maxRecDepth 20000 in
theorem gX2_pattern_X2_checkPerson : GoodIn wsX2_pattern (va_wsS RX2 67 yX2_checkPerson wsX2_checkPerson) := goodIn_app (goodIn_of _ (by decide +kernel)) ggX2_pattern_X2_checkPerson
set_option maxRecDepth 20000 in
theorem ggX2_pattern_X1_copyFrom : GoodIn wsX2_pattern wsX1_copyFrom := goodIn_r _ [16, 17, 18, 19, 20, 21, 22, 23, 39, 40, 41] (by decide +kernel) (by decide +kernel)
set_option maxRecDepth 20000 in
theorem gX2_pattern_X1_copyFrom_n126 : GoodIn wsX2_pattern (wsX1_copyFrom) := ggX2_pattern_X1_copyFrom
theorem dX2_pattern_0 : decode cX2_pattern 0 = .ok (.iload_n 1, 1) := by decide +kernel
theorem dX2_pattern_1 : decode cX2_pattern 1 = .ok (.invokestatic 67, 3) := by decide +kernel
theorem dX2_pattern_4 : decode cX2_pattern 4 = .ok (.aload_n 0, 1) := by decide +kernel
theorem dX2_pattern_5 : decode cX2_pattern 5 = .ok (.getfield 120, 3) := by decide +kernel
theorem dX2_pattern_8 : decode cX2_pattern 8 = .ok (.bipush 12, 2) := by decide +kernel
theorem dX2_pattern_10 : decode cX2_pattern 10 = .ok (.if_icmp .lt 13, 3) := by decide +kernel
theorem dX2_pattern_13 : decode cX2_pattern 13 = .ok (.new 79, 3) := by decide +kernel
theorem dX2_pattern_16 : decode cX2_pattern 16 = .ok (.dup, 1) := by decide +kernel
theorem dX2_pattern_17 : decode cX2_pattern 17 = .ok (.ldc 124, 2) := by decide +kernel
theorem dX2_pattern_19 : decode cX2_pattern 19 = .ok (.invokespecial 83, 3) := by decide +kernel
theorem dX2_pattern_22 : decode cX2_pattern 22 = .ok (.athrow, 1) := by decide +kernel
theorem dX2_pattern_23 : decode cX2_pattern 23 = .ok (.aload_n 0, 1) := by decide +kernel
theorem dX2_pattern_24 : decode cX2_pattern 24 = .ok (.getfield 120, 3) := by decide +kernel
theorem dX2_pattern_27 : decode cX2_pattern 27 = .ok (.istore_n 2, 1) := by decide +kernel
theorem dX2_pattern_28 : decode cX2_pattern 28 = .ok (.aload_n 0, 1) := by decide +kernel
theorem dX2_pattern_29 : decode cX2_pattern 29 = .ok (.getfield 28, 3) := by decide +kernel
theorem dX2_pattern_32 : decode cX2_pattern 32 = .ok (.iload_n 2, 1) := by decide +kernel
theorem dX2_pattern_33 : decode cX2_pattern 33 = .ok (.aaload, 1) := by decide +kernel
theorem dX2_pattern_34 : decode cX2_pattern 34 = .ok (.aload_n 0, 1) := by decide +kernel
theorem dX2_pattern_35 : decode cX2_pattern 35 = .ok (.getfield 24, 3) := by decide +kernel
theorem dX2_pattern_38 : decode cX2_pattern 38 = .ok (.invokevirtual 126, 3) := by decide +kernel
theorem dX2_pattern_41 : decode cX2_pattern 41 = .ok (.aload_n 0, 1) := by decide +kernel
theorem dX2_pattern_42 : decode cX2_pattern 42 = .ok (.getfield 32, 3) := by decide +kernel
theorem dX2_pattern_45 : decode cX2_pattern 45 = .ok (.iload_n 2, 1) := by decide +kernel
theorem dX2_pattern_46 : decode cX2_pattern 46 = .ok (.iload_n 1, 1) := by decide +kernel
theorem dX2_pattern_47 : decode cX2_pattern 47 = .ok (.iastore, 1) := by decide +kernel
theorem dX2_pattern_48 : decode cX2_pattern 48 = .ok (.aload_n 0, 1) := by decide +kernel
theorem dX2_pattern_49 : decode cX2_pattern 49 = .ok (.dup, 1) := by decide +kernel
theorem dX2_pattern_50 : decode cX2_pattern 50 = .ok (.getfield 120, 3) := by decide +kernel
theorem dX2_pattern_53 : decode cX2_pattern 53 = .ok (.iconst 1, 1) := by decide +kernel
theorem dX2_pattern_54 : decode cX2_pattern 54 = .ok (.iadd, 1) := by decide +kernel
theorem dX2_pattern_55 : decode cX2_pattern 55 = .ok (.putfield 120, 3) := by decide +kernel
theorem dX2_pattern_58 : decode cX2_pattern 58 = .ok (.iload_n 2, 1) := by decide +kernel
theorem dX2_pattern_59 : decode cX2_pattern 59 = .ok (.ireturn, 1) := by decide +kernel
theorem dX2_patterns_0 : decode cX2_patterns 0 = .ok (.aload_n 0, 1) := by decide +kernel
theorem dX2_patterns_1 : decode cX2_patterns 1 = .ok (.getfield 120, 3) := by decide +kernel
theorem dX2_patterns_4 : decode cX2_patterns 4 = .ok (.ireturn, 1) := by decide +kernel
set_option maxRecDepth 20000 in
theorem ggX2_symmetries_X2_checkPattern : GoodIn wsX2_symmetries wsX2_checkPattern := goodIn_ca (goodIn_r _ [6, 7, 8, 9, 25, 26, 27, 28, 29, 30, 31, 32, 33, 34, 35, 36, 37, 38, 39] (by decide +kernel) (by decide +kernel)) (goodIn_sub (fun _ h => List.mem_cons_of_mem _ (List.mem_append_right _ h)) (by decide +kernel))
set_option maxRecDepth 20000 in
theorem gX2_symmetries_X2_checkPattern : GoodIn wsX2_symmetries (wsV RX2 130 RX2 yX2_checkPattern wsX2_checkPattern) := goodIn_app (goodIn_of _ (by decide +kernel)) ggX2_symmetries_X2_checkPattern
set_option maxRecDepth 20000 in
theorem ggX2_symmetries_X1_hasImage : GoodIn wsX2_symmetries wsX1_hasImage := goodIn_r _ [13, 14, 15, 16, 17, 18, 11, 19, 20, 21, 22, 23, 24, 40, 41, 42] (by decide +kernel) (by decide +kernel)
set_option maxRecDepth 20000 in
theorem gX2_symmetries_X1_hasImage_n133 : GoodIn wsX2_symmetries (wsX1_hasImage) := ggX2_symmetries_X1_hasImage
theorem dX2_symmetries_0 : decode cX2_symmetries 0 = .ok (.aload_n 0, 1) := by decide +kernel
theorem dX2_symmetries_1 : decode cX2_symmetries 1 = .ok (.iload_n 1, 1) := by decide +kernel
theorem dX2_symmetries_2 : decode cX2_symmetries 2 = .ok (.invokevirtual 130, 3) := by decide +kernel
theorem dX2_symmetries_5 : decode cX2_symmetries 5 = .ok (.aload_n 0, 1) := by decide +kernel
theorem dX2_symmetries_6 : decode cX2_symmetries 6 = .ok (.getfield 28, 3) := by decide +kernel
theorem dX2_symmetries_9 : decode cX2_symmetries 9 = .ok (.iload_n 1, 1) := by decide +kernel
theorem dX2_symmetries_10 : decode cX2_symmetries 10 = .ok (.aaload, 1) := by decide +kernel
theorem dX2_symmetries_11 : decode cX2_symmetries 11 = .ok (.astore_n 2, 1) := by decide +kernel
theorem dX2_symmetries_12 : decode cX2_symmetries 12 = .ok (.aload_n 2, 1) := by decide +kernel
theorem dX2_symmetries_13 : decode cX2_symmetries 13 = .ok (.iconst 4, 1) := by decide +kernel
theorem dX2_symmetries_14 : decode cX2_symmetries 14 = .ok (.aload_n 2, 1) := by decide +kernel
theorem dX2_symmetries_15 : decode cX2_symmetries 15 = .ok (.invokevirtual 133, 3) := by decide +kernel
theorem dX2_symmetries_18 : decode cX2_symmetries 18 = .ok (.ifCond .eq 7, 3) := by decide +kernel
theorem dX2_symmetries_21 : decode cX2_symmetries 21 = .ok (.iconst 1, 1) := by decide +kernel
theorem dX2_symmetries_22 : decode cX2_symmetries 22 = .ok (.goto 4, 3) := by decide +kernel
theorem dX2_symmetries_25 : decode cX2_symmetries 25 = .ok (.iconst 0, 1) := by decide +kernel
theorem dX2_symmetries_26 : decode cX2_symmetries 26 = .ok (.aload_n 2, 1) := by decide +kernel
theorem dX2_symmetries_27 : decode cX2_symmetries 27 = .ok (.bipush 6, 2) := by decide +kernel
theorem dX2_symmetries_29 : decode cX2_symmetries 29 = .ok (.aload_n 2, 1) := by decide +kernel
theorem dX2_symmetries_30 : decode cX2_symmetries 30 = .ok (.invokevirtual 133, 3) := by decide +kernel
theorem dX2_symmetries_33 : decode cX2_symmetries 33 = .ok (.ifCond .eq 7, 3) := by decide +kernel
theorem dX2_symmetries_36 : decode cX2_symmetries 36 = .ok (.iconst 2, 1) := by decide +kernel
theorem dX2_symmetries_37 : decode cX2_symmetries 37 = .ok (.goto 4, 3) := by decide +kernel
theorem dX2_symmetries_40 : decode cX2_symmetries 40 = .ok (.iconst 0, 1) := by decide +kernel
theorem dX2_symmetries_41 : decode cX2_symmetries 41 = .ok (.iadd, 1) := by decide +kernel
theorem dX2_symmetries_42 : decode cX2_symmetries 42 = .ok (.aload_n 2, 1) := by decide +kernel
theorem dX2_symmetries_43 : decode cX2_symmetries 43 = .ok (.iconst 2, 1) := by decide +kernel
theorem dX2_symmetries_44 : decode cX2_symmetries 44 = .ok (.aload_n 2, 1) := by decide +kernel
theorem dX2_symmetries_45 : decode cX2_symmetries 45 = .ok (.invokevirtual 133, 3) := by decide +kernel
theorem dX2_symmetries_48 : decode cX2_symmetries 48 = .ok (.ifCond .eq 7, 3) := by decide +kernel
theorem dX2_symmetries_51 : decode cX2_symmetries 51 = .ok (.iconst 4, 1) := by decide +kernel
theorem dX2_symmetries_52 : decode cX2_symmetries 52 = .ok (.goto 4, 3) := by decide +kernel
theorem dX2_symmetries_55 : decode cX2_symmetries 55 = .ok (.iconst 0, 1) := by decide +kernel
theorem dX2_symmetries_56 : decode cX2_symmetries 56 = .ok (.iadd, 1) := by decide +kernel
theorem dX2_symmetries_57 : decode cX2_symmetries 57 = .ok (.aload_n 2, 1) := by decide +kernel
theorem dX2_symmetries_58 : decode cX2_symmetries 58 = .ok (.iconst 1, 1) := by decide +kernel
theorem dX2_symmetries_59 : decode cX2_symmetries 59 = .ok (.aload_n 2, 1) := by decide +kernel
theorem dX2_symmetries_60 : decode cX2_symmetries 60 = .ok (.invokevirtual 133, 3) := by decide +kernel
theorem dX2_symmetries_63 : decode cX2_symmetries 63 = .ok (.ifCond .eq 8, 3) := by decide +kernel
theorem dX2_symmetries_66 : decode cX2_symmetries 66 = .ok (.bipush 8, 2) := by decide +kernel
theorem dX2_symmetries_68 : decode cX2_symmetries 68 = .ok (.goto 4, 3) := by decide +kernel
theorem dX2_symmetries_71 : decode cX2_symmetries 71 = .ok (.iconst 0, 1) := by decide +kernel
theorem dX2_symmetries_72 : decode cX2_symmetries 72 = .ok (.iadd, 1) := by decide +kernel
theorem dX2_symmetries_73 : decode cX2_symmetries 73 = .ok (.ireturn, 1) := by decide +kernel
set_option maxRecDepth 20000 in
theorem ggX2_origin_X2_checkPattern : GoodIn wsX2_origin wsX2_checkPattern := goodIn_ca (goodIn_r _ [5, 6, 7, 8, 29, 30, 31, 32, 33, 34, 35, 36, 37, 38, 39, 40, 41, 42, 43] (by decide +kernel) (by decide +kernel)) (goodIn_sub (fun _ h => List.mem_cons_of_mem _ (List.mem_append_right _ h)) (by decide +kernel))
set_option maxRecDepth 20000 in
theorem gX2_origin_X2_checkPattern : GoodIn wsX2_origin (wsV RX2 130 RX2 yX2_checkPattern wsX2_checkPattern) := goodIn_app (goodIn_of _ (by decide +kernel)) ggX2_origin_X2_checkPattern
set_option maxRecDepth 20000 in
theorem ggX2_origin_X2_originOf : GoodIn wsX2_origin wsX2_originOf := goodIn_r _ [12, 13, 14, 15, 16, 17, 18, 19, 20, 21, 22, 23, 24, 25, 26, 27, 28, 29, 30, 31, 32, 33, 34, 35, 36, 37, 38, 39, 40, 41, 42, 43, 44, 45, 46] (by decide +kernel) (by decide +kernel)
set_option maxRecDepth 20000 in
theorem gX2_origin_X2_originOf : GoodIn wsX2_origin (wsV RX2 137 RX2 yX2_originOf wsX2_originOf) := goodIn_app (goodIn_of _ (by decide +kernel)) ggX2_origin_X2_originOf
theorem dX2_origin_0 : decode cX2_origin 0 = .ok (.aload_n 0, 1) := by decide +kernel
theorem dX2_origin_1 : decode cX2_origin 1 = .ok (.iload_n 1, 1) := by decide +kernel
theorem dX2_origin_2 : decode cX2_origin 2 = .ok (.invokevirtual 130, 3) := by decide +kernel
theorem dX2_origin_5 : decode cX2_origin 5 = .ok (.aload_n 0, 1) := by decide +kernel
theorem dX2_origin_6 : decode cX2_origin 6 = .ok (.iload_n 1, 1) := by decide +kernel
theorem dX2_origin_7 : decode cX2_origin 7 = .ok (.invokevirtual 137, 3) := by decide +kernel
theorem dX2_origin_10 : decode cX2_origin 10 = .ok (.ireturn, 1) := by decide +kernel
set_option maxRecDepth 20000 in
theorem ggX2_needs_X2_checkPattern : GoodIn wsX2_needs wsX2_checkPattern := goodIn_ca (goodIn_r _ [6, 7, 8, 9, 24, 25, 26, 27, 28, 29, 30, 31, 32, 33, 34, 35, 36, 37, 38] (by decide +kernel) (by decide +kernel)) (goodIn_sub (fun _ h => List.mem_cons_of_mem _ (List.mem_append_right _ h)) (by decide +kernel))
set_option maxRecDepth 20000 in
theorem gX2_needs_X2_checkPattern : GoodIn wsX2_needs (wsV RX2 130 RX2 yX2_checkPattern wsX2_checkPattern) := goodIn_app (goodIn_of _ (by decide +kernel)) ggX2_needs_X2_checkPattern
set_option maxRecDepth 20000 in
theorem ggX2_needs_X2_checkColour : GoodIn wsX2_needs wsX2_checkColour := goodIn_ca (goodIn_r _ [12, 7, 8] (by decide +kernel) (by decide +kernel)) (goodIn_sub (fun _ h => List.mem_cons_of_mem _ (List.mem_append_right _ h)) (by decide +kernel))
set_option maxRecDepth 20000 in
theorem gX2_needs_X2_checkColour : GoodIn wsX2_needs (va_wsS RX2 71 yX2_checkColour wsX2_checkColour) := goodIn_app (goodIn_of _ (by decide +kernel)) ggX2_needs_X2_checkColour
set_option maxRecDepth 20000 in
theorem ggX2_needs_X1_cellsOf : GoodIn wsX2_needs wsX1_cellsOf := goodIn_r _ [16, 17, 18, 19, 20, 14, 21, 22, 23, 39, 40, 41] (by decide +kernel) (by decide +kernel)
set_option maxRecDepth 20000 in
theorem gX2_needs_X1_cellsOf_n92 : GoodIn wsX2_needs (wsX1_cellsOf) := ggX2_needs_X1_cellsOf
theorem dX2_needs_0 : decode cX2_needs 0 = .ok (.aload_n 0, 1) := by decide +kernel
theorem dX2_needs_1 : decode cX2_needs 1 = .ok (.iload_n 1, 1) := by decide +kernel
theorem dX2_needs_2 : decode cX2_needs 2 = .ok (.invokevirtual 130, 3) := by decide +kernel
theorem dX2_needs_5 : decode cX2_needs 5 = .ok (.iload_n 2, 1) := by decide +kernel
theorem dX2_needs_6 : decode cX2_needs 6 = .ok (.invokestatic 71, 3) := by decide +kernel
theorem dX2_needs_9 : decode cX2_needs 9 = .ok (.aload_n 0, 1) := by decide +kernel
theorem dX2_needs_10 : decode cX2_needs 10 = .ok (.getfield 28, 3) := by decide +kernel
theorem dX2_needs_13 : decode cX2_needs 13 = .ok (.iload_n 1, 1) := by decide +kernel
theorem dX2_needs_14 : decode cX2_needs 14 = .ok (.aaload, 1) := by decide +kernel
theorem dX2_needs_15 : decode cX2_needs 15 = .ok (.iload_n 2, 1) := by decide +kernel
theorem dX2_needs_16 : decode cX2_needs 16 = .ok (.invokevirtual 92, 3) := by decide +kernel
theorem dX2_needs_19 : decode cX2_needs 19 = .ok (.ireturn, 1) := by decide +kernel
set_option maxRecDepth 20000 in
theorem ggX2_weave_X2_checkPerson : GoodIn wsX2_weave wsX2_checkPerson := goodIn_ca (goodIn_r _ [12, 13, 14] (by decide +kernel) (by decide +kernel)) (goodIn_sub (fun _ h => List.mem_cons_of_mem _ (List.mem_append_right _ h)) (by decide +kernel))
set_option maxRecDepth 20000 in
theorem gX2_weave_X2_checkPerson : GoodIn wsX2_weave (va_wsS RX2 67 yX2_checkPerson wsX2_checkPerson) := goodIn_app (goodIn_of _ (by decide +kernel)) ggX2_weave_X2_checkPerson
set_option maxRecDepth 20000 in
theorem ggX2_weave_X2_checkPattern : GoodIn wsX2_weave wsX2_checkPattern := goodIn_ca (goodIn_r _ [18, 13, 14, 19, 54, 55, 56, 57, 58, 59, 60, 61, 62, 63, 64, 65, 66, 67, 68] (by decide +kernel) (by decide +kernel)) (goodIn_sub (fun _ h => List.mem_cons_of_mem _ (List.mem_append_right _ h)) (by decide +kernel))
set_option maxRecDepth 20000 in
theorem gX2_weave_X2_checkPattern : GoodIn wsX2_weave (wsV RX2 130 RX2 yX2_checkPattern wsX2_checkPattern) := goodIn_app (goodIn_of _ (by decide +kernel)) ggX2_weave_X2_checkPattern
set_option maxRecDepth 20000 in
theorem ggX2_weave_X2_lowestFreeBelt : GoodIn wsX2_weave wsX2_lowestFreeBelt := goodIn_r _ [23, 24, 25, 26, 11, 27, 5, 54, 55, 56, 57, 58, 59, 60, 61, 62, 63, 64, 65, 66, 67, 68] (by decide +kernel) (by decide +kernel)
set_option maxRecDepth 20000 in
theorem gX2_weave_X2_lowestFreeBelt : GoodIn wsX2_weave (wsV RX2 140 RX2 yX2_lowestFreeBelt wsX2_lowestFreeBelt) := goodIn_app (goodIn_of _ (by decide +kernel)) ggX2_weave_X2_lowestFreeBelt
set_option maxRecDepth 20000 in
theorem ggX2_weave_X1_cellsOf : GoodIn wsX2_weave wsX1_cellsOf := goodIn_r _ [31, 32, 33, 34, 35, 29, 36, 37, 38, 69, 70, 71] (by decide +kernel) (by decide +kernel)
set_option maxRecDepth 20000 in
theorem gX2_weave_X1_cellsOf_n92 : GoodIn wsX2_weave (wsX1_cellsOf) := ggX2_weave_X1_cellsOf
set_option maxRecDepth 20000 in
theorem ggX2_weave_X2_originOf : GoodIn wsX2_weave wsX2_originOf := goodIn_r _ [42, 3, 43, 29, 44, 45, 37, 38, 46, 47, 48, 49, 50, 51, 52, 53, 32, 54, 55, 56, 57, 58, 59, 60, 61, 62, 63, 64, 65, 66, 67, 68, 69, 70, 71] (by decide +kernel) (by decide +kernel)
set_option maxRecDepth 20000 in
theorem gX2_weave_X2_originOf : GoodIn wsX2_weave (wsV RX2 137 RX2 yX2_originOf wsX2_originOf) := goodIn_app (goodIn_of _ (by decide +kernel)) ggX2_weave_X2_originOf
theorem dX2_weave_0 : decode cX2_weave 0 = .ok (.iload_n 1, 1) := by decide +kernel
theorem dX2_weave_1 : decode cX2_weave 1 = .ok (.invokestatic 67, 3) := by decide +kernel
theorem dX2_weave_4 : decode cX2_weave 4 = .ok (.aload_n 0, 1) := by decide +kernel
theorem dX2_weave_5 : decode cX2_weave 5 = .ok (.iload_n 2, 1) := by decide +kernel
theorem dX2_weave_6 : decode cX2_weave 6 = .ok (.invokevirtual 130, 3) := by decide +kernel
theorem dX2_weave_9 : decode cX2_weave 9 = .ok (.aload_n 0, 1) := by decide +kernel
theorem dX2_weave_10 : decode cX2_weave 10 = .ok (.invokevirtual 140, 3) := by decide +kernel
theorem dX2_weave_13 : decode cX2_weave 13 = .ok (.istore_n 3, 1) := by decide +kernel
theorem dX2_weave_14 : decode cX2_weave 14 = .ok (.iload_n 3, 1) := by decide +kernel
theorem dX2_weave_15 : decode cX2_weave 15 = .ok (.iconst (-1), 1) := by decide +kernel
theorem dX2_weave_16 : decode cX2_weave 16 = .ok (.if_icmp .ne 13, 3) := by decide +kernel
theorem dX2_weave_19 : decode cX2_weave 19 = .ok (.new 79, 3) := by decide +kernel
theorem dX2_weave_22 : decode cX2_weave 22 = .ok (.dup, 1) := by decide +kernel
theorem dX2_weave_23 : decode cX2_weave 23 = .ok (.ldc 143, 2) := by decide +kernel
theorem dX2_weave_25 : decode cX2_weave 25 = .ok (.invokespecial 83, 3) := by decide +kernel
theorem dX2_weave_28 : decode cX2_weave 28 = .ok (.athrow, 1) := by decide +kernel
theorem dX2_weave_29 : decode cX2_weave 29 = .ok (.aload_n 0, 1) := by decide +kernel
theorem dX2_weave_30 : decode cX2_weave 30 = .ok (.getfield 28, 3) := by decide +kernel
theorem dX2_weave_33 : decode cX2_weave 33 = .ok (.iload_n 2, 1) := by decide +kernel
theorem dX2_weave_34 : decode cX2_weave 34 = .ok (.aaload, 1) := by decide +kernel
theorem dX2_weave_35 : decode cX2_weave 35 = .ok (.astore 4, 2) := by decide +kernel
theorem dX2_weave_37 : decode cX2_weave 37 = .ok (.iconst 0, 1) := by decide +kernel
theorem dX2_weave_38 : decode cX2_weave 38 = .ok (.istore 5, 2) := by decide +kernel
theorem dX2_weave_40 : decode cX2_weave 40 = .ok (.iload 5, 2) := by decide +kernel
theorem dX2_weave_42 : decode cX2_weave 42 = .ok (.bipush 8, 2) := by decide +kernel
theorem dX2_weave_44 : decode cX2_weave 44 = .ok (.if_icmp .ge 38, 3) := by decide +kernel
theorem dX2_weave_47 : decode cX2_weave 47 = .ok (.aload_n 0, 1) := by decide +kernel
theorem dX2_weave_48 : decode cX2_weave 48 = .ok (.getfield 11, 3) := by decide +kernel
theorem dX2_weave_51 : decode cX2_weave 51 = .ok (.iload_n 1, 1) := by decide +kernel
theorem dX2_weave_52 : decode cX2_weave 52 = .ok (.aaload, 1) := by decide +kernel
theorem dX2_weave_53 : decode cX2_weave 53 = .ok (.iload 5, 2) := by decide +kernel
theorem dX2_weave_55 : decode cX2_weave 55 = .ok (.iaload, 1) := by decide +kernel
theorem dX2_weave_56 : decode cX2_weave 56 = .ok (.aload 4, 2) := by decide +kernel
theorem dX2_weave_58 : decode cX2_weave 58 = .ok (.iload 5, 2) := by decide +kernel
theorem dX2_weave_60 : decode cX2_weave 60 = .ok (.invokevirtual 92, 3) := by decide +kernel
theorem dX2_weave_63 : decode cX2_weave 63 = .ok (.if_icmp .ge 13, 3) := by decide +kernel
theorem dX2_weave_66 : decode cX2_weave 66 = .ok (.new 79, 3) := by decide +kernel
theorem dX2_weave_69 : decode cX2_weave 69 = .ok (.dup, 1) := by decide +kernel
theorem dX2_weave_70 : decode cX2_weave 70 = .ok (.ldc 145, 2) := by decide +kernel
theorem dX2_weave_72 : decode cX2_weave 72 = .ok (.invokespecial 83, 3) := by decide +kernel
theorem dX2_weave_75 : decode cX2_weave 75 = .ok (.athrow, 1) := by decide +kernel
theorem dX2_weave_76 : decode cX2_weave 76 = .ok (.iinc 5 1, 3) := by decide +kernel
theorem dX2_weave_79 : decode cX2_weave 79 = .ok (.goto (-39), 3) := by decide +kernel
theorem dX2_weave_82 : decode cX2_weave 82 = .ok (.iconst 0, 1) := by decide +kernel
theorem dX2_weave_83 : decode cX2_weave 83 = .ok (.istore 5, 2) := by decide +kernel
theorem dX2_weave_85 : decode cX2_weave 85 = .ok (.iload 5, 2) := by decide +kernel
theorem dX2_weave_87 : decode cX2_weave 87 = .ok (.bipush 8, 2) := by decide +kernel
theorem dX2_weave_89 : decode cX2_weave 89 = .ok (.if_icmp .ge 28, 3) := by decide +kernel
theorem dX2_weave_92 : decode cX2_weave 92 = .ok (.aload_n 0, 1) := by decide +kernel
theorem dX2_weave_93 : decode cX2_weave 93 = .ok (.getfield 11, 3) := by decide +kernel
theorem dX2_weave_96 : decode cX2_weave 96 = .ok (.iload_n 1, 1) := by decide +kernel
theorem dX2_weave_97 : decode cX2_weave 97 = .ok (.aaload, 1) := by decide +kernel
theorem dX2_weave_98 : decode cX2_weave 98 = .ok (.iload 5, 2) := by decide +kernel
theorem dX2_weave_100 : decode cX2_weave 100 = .ok (.dup2, 1) := by decide +kernel
theorem dX2_weave_101 : decode cX2_weave 101 = .ok (.iaload, 1) := by decide +kernel
theorem dX2_weave_102 : decode cX2_weave 102 = .ok (.aload 4, 2) := by decide +kernel
theorem dX2_weave_104 : decode cX2_weave 104 = .ok (.iload 5, 2) := by decide +kernel
theorem dX2_weave_106 : decode cX2_weave 106 = .ok (.invokevirtual 92, 3) := by decide +kernel
theorem dX2_weave_109 : decode cX2_weave 109 = .ok (.isub, 1) := by decide +kernel
theorem dX2_weave_110 : decode cX2_weave 110 = .ok (.iastore, 1) := by decide +kernel
theorem dX2_weave_111 : decode cX2_weave 111 = .ok (.iinc 5 1, 3) := by decide +kernel
theorem dX2_weave_114 : decode cX2_weave 114 = .ok (.goto (-29), 3) := by decide +kernel
theorem dX2_weave_117 : decode cX2_weave 117 = .ok (.aload_n 0, 1) := by decide +kernel
theorem dX2_weave_118 : decode cX2_weave 118 = .ok (.getfield 35, 3) := by decide +kernel
theorem dX2_weave_121 : decode cX2_weave 121 = .ok (.iload_n 3, 1) := by decide +kernel
theorem dX2_weave_122 : decode cX2_weave 122 = .ok (.iload_n 2, 1) := by decide +kernel
theorem dX2_weave_123 : decode cX2_weave 123 = .ok (.iastore, 1) := by decide +kernel
theorem dX2_weave_124 : decode cX2_weave 124 = .ok (.aload_n 0, 1) := by decide +kernel
theorem dX2_weave_125 : decode cX2_weave 125 = .ok (.getfield 38, 3) := by decide +kernel
theorem dX2_weave_128 : decode cX2_weave 128 = .ok (.iload_n 3, 1) := by decide +kernel
theorem dX2_weave_129 : decode cX2_weave 129 = .ok (.iload_n 1, 1) := by decide +kernel
theorem dX2_weave_130 : decode cX2_weave 130 = .ok (.iastore, 1) := by decide +kernel
theorem dX2_weave_131 : decode cX2_weave 131 = .ok (.aload_n 0, 1) := by decide +kernel
theorem dX2_weave_132 : decode cX2_weave 132 = .ok (.getfield 41, 3) := by decide +kernel
theorem dX2_weave_135 : decode cX2_weave 135 = .ok (.aload_n 0, 1) := by decide +kernel
theorem dX2_weave_136 : decode cX2_weave 136 = .ok (.getfield 32, 3) := by decide +kernel
theorem dX2_weave_139 : decode cX2_weave 139 = .ok (.aload_n 0, 1) := by decide +kernel
theorem dX2_weave_140 : decode cX2_weave 140 = .ok (.iload_n 2, 1) := by decide +kernel
theorem dX2_weave_141 : decode cX2_weave 141 = .ok (.invokevirtual 137, 3) := by decide +kernel
theorem dX2_weave_144 : decode cX2_weave 144 = .ok (.iaload, 1) := by decide +kernel
theorem dX2_weave_145 : decode cX2_weave 145 = .ok (.dup2, 1) := by decide +kernel
theorem dX2_weave_146 : decode cX2_weave 146 = .ok (.iaload, 1) := by decide +kernel
theorem dX2_weave_147 : decode cX2_weave 147 = .ok (.iconst 1, 1) := by decide +kernel
theorem dX2_weave_148 : decode cX2_weave 148 = .ok (.iadd, 1) := by decide +kernel
theorem dX2_weave_149 : decode cX2_weave 149 = .ok (.iastore, 1) := by decide +kernel
theorem dX2_weave_150 : decode cX2_weave 150 = .ok (.iload_n 3, 1) := by decide +kernel
theorem dX2_weave_151 : decode cX2_weave 151 = .ok (.ireturn, 1) := by decide +kernel
set_option maxRecDepth 20000 in
theorem ggX2_apart_X2_checkBelt : GoodIn wsX2_apart wsX2_checkBelt := goodIn_ca (goodIn_r _ [12, 13, 14, 15, 16, 17, 11, 18, 4, 30, 31, 32, 33, 34, 35, 36, 37, 38, 39, 40, 41, 42, 43, 44] (by decide +kernel) (by decide +kernel)) (goodIn_sub (fun _ h => List.mem_cons_of_mem _ (List.mem_append_right _ h)) (by decide +kernel))
set_option maxRecDepth 20000 in
theorem gX2_apart_X2_checkBelt : GoodIn wsX2_apart (wsV RX2 147 RX2 yX2_checkBelt wsX2_checkBelt) := goodIn_app (goodIn_of _ (by decide +kernel)) ggX2_apart_X2_checkBelt
set_option maxRecDepth 20000 in
theorem ggX2_apart_X1_cellsOf : GoodIn wsX2_apart wsX1_cellsOf := goodIn_r _ [22, 23, 24, 25, 26, 20, 27, 28, 29, 45, 46, 47] (by decide +kernel) (by decide +kernel)
set_option maxRecDepth 20000 in
theorem gX2_apart_X1_cellsOf_n92 : GoodIn wsX2_apart (wsX1_cellsOf) := ggX2_apart_X1_cellsOf
set_option maxRecDepth 20000 in
theorem ggX2_apart_X1_size : GoodIn wsX2_apart wsX1_size := goodIn_r _ [27, 28, 29, 45, 46, 47] (by decide +kernel) (by decide +kernel)
set_option maxRecDepth 20000 in
theorem gX2_apart_X1_size_n100 : GoodIn wsX2_apart (wsX1_size) := ggX2_apart_X1_size
theorem dX2_apart_0 : decode cX2_apart 0 = .ok (.aload_n 0, 1) := by decide +kernel
theorem dX2_apart_1 : decode cX2_apart 1 = .ok (.iload_n 1, 1) := by decide +kernel
theorem dX2_apart_2 : decode cX2_apart 2 = .ok (.invokevirtual 147, 3) := by decide +kernel
theorem dX2_apart_5 : decode cX2_apart 5 = .ok (.aload_n 0, 1) := by decide +kernel
theorem dX2_apart_6 : decode cX2_apart 6 = .ok (.getfield 28, 3) := by decide +kernel
theorem dX2_apart_9 : decode cX2_apart 9 = .ok (.aload_n 0, 1) := by decide +kernel
theorem dX2_apart_10 : decode cX2_apart 10 = .ok (.getfield 35, 3) := by decide +kernel
theorem dX2_apart_13 : decode cX2_apart 13 = .ok (.iload_n 1, 1) := by decide +kernel
theorem dX2_apart_14 : decode cX2_apart 14 = .ok (.iaload, 1) := by decide +kernel
theorem dX2_apart_15 : decode cX2_apart 15 = .ok (.aaload, 1) := by decide +kernel
theorem dX2_apart_16 : decode cX2_apart 16 = .ok (.astore_n 2, 1) := by decide +kernel
theorem dX2_apart_17 : decode cX2_apart 17 = .ok (.aload_n 0, 1) := by decide +kernel
theorem dX2_apart_18 : decode cX2_apart 18 = .ok (.getfield 11, 3) := by decide +kernel
theorem dX2_apart_21 : decode cX2_apart 21 = .ok (.aload_n 0, 1) := by decide +kernel
theorem dX2_apart_22 : decode cX2_apart 22 = .ok (.getfield 38, 3) := by decide +kernel
theorem dX2_apart_25 : decode cX2_apart 25 = .ok (.iload_n 1, 1) := by decide +kernel
theorem dX2_apart_26 : decode cX2_apart 26 = .ok (.iaload, 1) := by decide +kernel
theorem dX2_apart_27 : decode cX2_apart 27 = .ok (.aaload, 1) := by decide +kernel
theorem dX2_apart_28 : decode cX2_apart 28 = .ok (.astore_n 3, 1) := by decide +kernel
theorem dX2_apart_29 : decode cX2_apart 29 = .ok (.iconst 0, 1) := by decide +kernel
theorem dX2_apart_30 : decode cX2_apart 30 = .ok (.istore 4, 2) := by decide +kernel
theorem dX2_apart_32 : decode cX2_apart 32 = .ok (.iload 4, 2) := by decide +kernel
theorem dX2_apart_34 : decode cX2_apart 34 = .ok (.bipush 8, 2) := by decide +kernel
theorem dX2_apart_36 : decode cX2_apart 36 = .ok (.if_icmp .ge 35, 3) := by decide +kernel
theorem dX2_apart_39 : decode cX2_apart 39 = .ok (.aload_n 3, 1) := by decide +kernel
theorem dX2_apart_40 : decode cX2_apart 40 = .ok (.iload 4, 2) := by decide +kernel
theorem dX2_apart_42 : decode cX2_apart 42 = .ok (.iaload, 1) := by decide +kernel
theorem dX2_apart_43 : decode cX2_apart 43 = .ok (.aload_n 2, 1) := by decide +kernel
theorem dX2_apart_44 : decode cX2_apart 44 = .ok (.iload 4, 2) := by decide +kernel
theorem dX2_apart_46 : decode cX2_apart 46 = .ok (.invokevirtual 92, 3) := by decide +kernel
theorem dX2_apart_49 : decode cX2_apart 49 = .ok (.iadd, 1) := by decide +kernel
theorem dX2_apart_50 : decode cX2_apart 50 = .ok (.ldc 78, 2) := by decide +kernel
theorem dX2_apart_52 : decode cX2_apart 52 = .ok (.if_icmp .le 13, 3) := by decide +kernel
theorem dX2_apart_55 : decode cX2_apart 55 = .ok (.new 79, 3) := by decide +kernel
theorem dX2_apart_58 : decode cX2_apart 58 = .ok (.dup, 1) := by decide +kernel
theorem dX2_apart_59 : decode cX2_apart 59 = .ok (.ldc 81, 2) := by decide +kernel
theorem dX2_apart_61 : decode cX2_apart 61 = .ok (.invokespecial 83, 3) := by decide +kernel
theorem dX2_apart_64 : decode cX2_apart 64 = .ok (.athrow, 1) := by decide +kernel
theorem dX2_apart_65 : decode cX2_apart 65 = .ok (.iinc 4 1, 3) := by decide +kernel
theorem dX2_apart_68 : decode cX2_apart 68 = .ok (.goto (-36), 3) := by decide +kernel
theorem dX2_apart_71 : decode cX2_apart 71 = .ok (.iconst 0, 1) := by decide +kernel
theorem dX2_apart_72 : decode cX2_apart 72 = .ok (.istore 4, 2) := by decide +kernel
theorem dX2_apart_74 : decode cX2_apart 74 = .ok (.iload 4, 2) := by decide +kernel
theorem dX2_apart_76 : decode cX2_apart 76 = .ok (.bipush 8, 2) := by decide +kernel
theorem dX2_apart_78 : decode cX2_apart 78 = .ok (.if_icmp .ge 22, 3) := by decide +kernel
theorem dX2_apart_81 : decode cX2_apart 81 = .ok (.aload_n 3, 1) := by decide +kernel
theorem dX2_apart_82 : decode cX2_apart 82 = .ok (.iload 4, 2) := by decide +kernel
theorem dX2_apart_84 : decode cX2_apart 84 = .ok (.dup2, 1) := by decide +kernel
theorem dX2_apart_85 : decode cX2_apart 85 = .ok (.iaload, 1) := by decide +kernel
theorem dX2_apart_86 : decode cX2_apart 86 = .ok (.aload_n 2, 1) := by decide +kernel
theorem dX2_apart_87 : decode cX2_apart 87 = .ok (.iload 4, 2) := by decide +kernel
theorem dX2_apart_89 : decode cX2_apart 89 = .ok (.invokevirtual 92, 3) := by decide +kernel
theorem dX2_apart_92 : decode cX2_apart 92 = .ok (.iadd, 1) := by decide +kernel
theorem dX2_apart_93 : decode cX2_apart 93 = .ok (.iastore, 1) := by decide +kernel
theorem dX2_apart_94 : decode cX2_apart 94 = .ok (.iinc 4 1, 3) := by decide +kernel
theorem dX2_apart_97 : decode cX2_apart 97 = .ok (.goto (-23), 3) := by decide +kernel
theorem dX2_apart_100 : decode cX2_apart 100 = .ok (.aload_n 0, 1) := by decide +kernel
theorem dX2_apart_101 : decode cX2_apart 101 = .ok (.getfield 35, 3) := by decide +kernel
theorem dX2_apart_104 : decode cX2_apart 104 = .ok (.iload_n 1, 1) := by decide +kernel
theorem dX2_apart_105 : decode cX2_apart 105 = .ok (.iconst (-1), 1) := by decide +kernel
theorem dX2_apart_106 : decode cX2_apart 106 = .ok (.iastore, 1) := by decide +kernel
theorem dX2_apart_107 : decode cX2_apart 107 = .ok (.aload_n 2, 1) := by decide +kernel
theorem dX2_apart_108 : decode cX2_apart 108 = .ok (.invokevirtual 100, 3) := by decide +kernel
theorem dX2_apart_111 : decode cX2_apart 111 = .ok (.ireturn, 1) := by decide +kernel
set_option maxRecDepth 20000 in
theorem ggX2_give_X2_checkBelt : GoodIn wsX2_give wsX2_checkBelt := goodIn_ca (goodIn_r _ [6, 7, 8, 9, 10, 11, 5, 12, 13, 17, 18, 19, 20, 21, 22, 23, 24, 25, 26, 27, 28, 29, 30, 31] (by decide +kernel) (by decide +kernel)) (goodIn_sub (fun _ h => List.mem_cons_of_mem _ (List.mem_append_right _ h)) (by decide +kernel))
set_option maxRecDepth 20000 in
theorem gX2_give_X2_checkBelt : GoodIn wsX2_give (wsV RX2 147 RX2 yX2_checkBelt wsX2_checkBelt) := goodIn_app (goodIn_of _ (by decide +kernel)) ggX2_give_X2_checkBelt
set_option maxRecDepth 20000 in
theorem ggX2_give_X2_checkPerson : GoodIn wsX2_give wsX2_checkPerson := goodIn_ca (goodIn_r _ [16, 7, 8] (by decide +kernel) (by decide +kernel)) (goodIn_sub (fun _ h => List.mem_cons_of_mem _ (List.mem_append_right _ h)) (by decide +kernel))
set_option maxRecDepth 20000 in
theorem gX2_give_X2_checkPerson : GoodIn wsX2_give (va_wsS RX2 67 yX2_checkPerson wsX2_checkPerson) := goodIn_app (goodIn_of _ (by decide +kernel)) ggX2_give_X2_checkPerson
theorem dX2_give_0 : decode cX2_give 0 = .ok (.aload_n 0, 1) := by decide +kernel
theorem dX2_give_1 : decode cX2_give 1 = .ok (.iload_n 1, 1) := by decide +kernel
theorem dX2_give_2 : decode cX2_give 2 = .ok (.invokevirtual 147, 3) := by decide +kernel
theorem dX2_give_5 : decode cX2_give 5 = .ok (.iload_n 2, 1) := by decide +kernel
theorem dX2_give_6 : decode cX2_give 6 = .ok (.invokestatic 67, 3) := by decide +kernel
theorem dX2_give_9 : decode cX2_give 9 = .ok (.aload_n 0, 1) := by decide +kernel
theorem dX2_give_10 : decode cX2_give 10 = .ok (.getfield 38, 3) := by decide +kernel
theorem dX2_give_13 : decode cX2_give 13 = .ok (.iload_n 1, 1) := by decide +kernel
theorem dX2_give_14 : decode cX2_give 14 = .ok (.iaload, 1) := by decide +kernel
theorem dX2_give_15 : decode cX2_give 15 = .ok (.istore_n 3, 1) := by decide +kernel
theorem dX2_give_16 : decode cX2_give 16 = .ok (.aload_n 0, 1) := by decide +kernel
theorem dX2_give_17 : decode cX2_give 17 = .ok (.getfield 38, 3) := by decide +kernel
theorem dX2_give_20 : decode cX2_give 20 = .ok (.iload_n 1, 1) := by decide +kernel
theorem dX2_give_21 : decode cX2_give 21 = .ok (.iload_n 2, 1) := by decide +kernel
theorem dX2_give_22 : decode cX2_give 22 = .ok (.iastore, 1) := by decide +kernel
theorem dX2_give_23 : decode cX2_give 23 = .ok (.iload_n 3, 1) := by decide +kernel
theorem dX2_give_24 : decode cX2_give 24 = .ok (.ireturn, 1) := by decide +kernel
set_option maxRecDepth 20000 in
theorem ggX2_owner_X2_checkBelt : GoodIn wsX2_owner wsX2_checkBelt := goodIn_ca (goodIn_r _ [6, 7, 8, 9, 10, 11, 5, 12, 13, 14, 15, 16, 17, 18, 19, 20, 21, 22, 23, 24, 25, 26, 27, 28] (by decide +kernel) (by decide +kernel)) (goodIn_sub (fun _ h => List.mem_cons_of_mem _ (List.mem_append_right _ h)) (by decide +kernel))
set_option maxRecDepth 20000 in
theorem gX2_owner_X2_checkBelt : GoodIn wsX2_owner (wsV RX2 147 RX2 yX2_checkBelt wsX2_checkBelt) := goodIn_app (goodIn_of _ (by decide +kernel)) ggX2_owner_X2_checkBelt
theorem dX2_owner_0 : decode cX2_owner 0 = .ok (.aload_n 0, 1) := by decide +kernel
theorem dX2_owner_1 : decode cX2_owner 1 = .ok (.iload_n 1, 1) := by decide +kernel
theorem dX2_owner_2 : decode cX2_owner 2 = .ok (.invokevirtual 147, 3) := by decide +kernel
theorem dX2_owner_5 : decode cX2_owner 5 = .ok (.aload_n 0, 1) := by decide +kernel
theorem dX2_owner_6 : decode cX2_owner 6 = .ok (.getfield 38, 3) := by decide +kernel
theorem dX2_owner_9 : decode cX2_owner 9 = .ok (.iload_n 1, 1) := by decide +kernel
theorem dX2_owner_10 : decode cX2_owner 10 = .ok (.iaload, 1) := by decide +kernel
theorem dX2_owner_11 : decode cX2_owner 11 = .ok (.ireturn, 1) := by decide +kernel
set_option maxRecDepth 20000 in
theorem ggX2_credits_X2_checkPerson : GoodIn wsX2_credits wsX2_checkPerson := goodIn_ca (goodIn_r _ [5, 6, 7] (by decide +kernel) (by decide +kernel)) (goodIn_sub (fun _ h => List.mem_cons_of_mem _ (List.mem_append_right _ h)) (by decide +kernel))
set_option maxRecDepth 20000 in
theorem gX2_credits_X2_checkPerson : GoodIn wsX2_credits (va_wsS RX2 67 yX2_checkPerson wsX2_checkPerson) := goodIn_app (goodIn_of _ (by decide +kernel)) ggX2_credits_X2_checkPerson
theorem dX2_credits_0 : decode cX2_credits 0 = .ok (.iload_n 1, 1) := by decide +kernel
theorem dX2_credits_1 : decode cX2_credits 1 = .ok (.invokestatic 67, 3) := by decide +kernel
theorem dX2_credits_4 : decode cX2_credits 4 = .ok (.aload_n 0, 1) := by decide +kernel
theorem dX2_credits_5 : decode cX2_credits 5 = .ok (.getfield 41, 3) := by decide +kernel
theorem dX2_credits_8 : decode cX2_credits 8 = .ok (.iload_n 1, 1) := by decide +kernel
theorem dX2_credits_9 : decode cX2_credits 9 = .ok (.iaload, 1) := by decide +kernel
theorem dX2_credits_10 : decode cX2_credits 10 = .ok (.ireturn, 1) := by decide +kernel
set_option maxRecDepth 20000 in
theorem ggX2_wish_X2_checkPerson : GoodIn wsX2_wish wsX2_checkPerson := goodIn_ca (goodIn_r _ [7, 8, 9] (by decide +kernel) (by decide +kernel)) (goodIn_sub (fun _ h => List.mem_cons_of_mem _ (List.mem_append_right _ h)) (by decide +kernel))
set_option maxRecDepth 20000 in
theorem gX2_wish_X2_checkPerson : GoodIn wsX2_wish (va_wsS RX2 67 yX2_checkPerson wsX2_checkPerson) := goodIn_app (goodIn_of _ (by decide +kernel)) ggX2_wish_X2_checkPerson
set_option maxRecDepth 20000 in
theorem ggX2_wish_X2_checkColour : GoodIn wsX2_wish wsX2_checkColour := goodIn_ca (goodIn_r _ [12, 8, 9] (by decide +kernel) (by decide +kernel)) (goodIn_sub (fun _ h => List.mem_cons_of_mem _ (List.mem_append_right _ h)) (by decide +kernel))
set_option maxRecDepth 20000 in
theorem gX2_wish_X2_checkColour : GoodIn wsX2_wish (va_wsS RX2 71 yX2_checkColour wsX2_checkColour) := goodIn_app (goodIn_of _ (by decide +kernel)) ggX2_wish_X2_checkColour
set_option maxRecDepth 20000 in
theorem ggX2_wish_X0_hasWish : GoodIn wsX2_wish wsX0_hasWish := goodIn_r _ [16, 17, 37, 38, 39, 40, 41, 42] (by decide +kernel) (by decide +kernel)
set_option maxRecDepth 20000 in
theorem gX2_wish_X0_hasWish_n155 : GoodIn wsX2_wish (wsX0_hasWish) := ggX2_wish_X0_hasWish
set_option maxRecDepth 20000 in
theorem ggX2_wish_X0_setWish : GoodIn wsX2_wish wsX0_setWish := goodIn_r _ [20, 17, 21, 37, 38, 39, 40, 41, 42] (by decide +kernel) (by decide +kernel)
set_option maxRecDepth 20000 in
theorem gX2_wish_X0_setWish_n158 : GoodIn wsX2_wish (wsX0_setWish) := ggX2_wish_X0_setWish
theorem dX2_wish_0 : decode cX2_wish 0 = .ok (.iload_n 1, 1) := by decide +kernel
theorem dX2_wish_1 : decode cX2_wish 1 = .ok (.invokestatic 67, 3) := by decide +kernel
theorem dX2_wish_4 : decode cX2_wish 4 = .ok (.iload_n 2, 1) := by decide +kernel
theorem dX2_wish_5 : decode cX2_wish 5 = .ok (.invokestatic 71, 3) := by decide +kernel
theorem dX2_wish_8 : decode cX2_wish 8 = .ok (.iload_n 3, 1) := by decide +kernel
theorem dX2_wish_9 : decode cX2_wish 9 = .ok (.invokestatic 71, 3) := by decide +kernel
theorem dX2_wish_12 : decode cX2_wish 12 = .ok (.iload_n 2, 1) := by decide +kernel
theorem dX2_wish_13 : decode cX2_wish 13 = .ok (.iload_n 3, 1) := by decide +kernel
theorem dX2_wish_14 : decode cX2_wish 14 = .ok (.if_icmp .ne 13, 3) := by decide +kernel
theorem dX2_wish_17 : decode cX2_wish 17 = .ok (.new 150, 3) := by decide +kernel
theorem dX2_wish_20 : decode cX2_wish 20 = .ok (.dup, 1) := by decide +kernel
theorem dX2_wish_21 : decode cX2_wish 21 = .ok (.ldc 152, 2) := by decide +kernel
theorem dX2_wish_23 : decode cX2_wish 23 = .ok (.invokespecial 154, 3) := by decide +kernel
theorem dX2_wish_26 : decode cX2_wish 26 = .ok (.athrow, 1) := by decide +kernel
theorem dX2_wish_27 : decode cX2_wish 27 = .ok (.aload_n 0, 1) := by decide +kernel
theorem dX2_wish_28 : decode cX2_wish 28 = .ok (.getfield 47, 3) := by decide +kernel
theorem dX2_wish_31 : decode cX2_wish 31 = .ok (.iload_n 1, 1) := by decide +kernel
theorem dX2_wish_32 : decode cX2_wish 32 = .ok (.invokevirtual 155, 3) := by decide +kernel
theorem dX2_wish_35 : decode cX2_wish 35 = .ok (.istore 4, 2) := by decide +kernel
theorem dX2_wish_37 : decode cX2_wish 37 = .ok (.aload_n 0, 1) := by decide +kernel
theorem dX2_wish_38 : decode cX2_wish 38 = .ok (.getfield 47, 3) := by decide +kernel
theorem dX2_wish_41 : decode cX2_wish 41 = .ok (.iload_n 1, 1) := by decide +kernel
theorem dX2_wish_42 : decode cX2_wish 42 = .ok (.iload_n 2, 1) := by decide +kernel
theorem dX2_wish_43 : decode cX2_wish 43 = .ok (.iload_n 3, 1) := by decide +kernel
theorem dX2_wish_44 : decode cX2_wish 44 = .ok (.invokevirtual 158, 3) := by decide +kernel
theorem dX2_wish_47 : decode cX2_wish 47 = .ok (.iload 4, 2) := by decide +kernel
theorem dX2_wish_49 : decode cX2_wish 49 = .ok (.ireturn, 1) := by decide +kernel
set_option maxRecDepth 20000 in
theorem ggX2_unwish_X2_checkPerson : GoodIn wsX2_unwish wsX2_checkPerson := goodIn_ca (goodIn_r _ [5, 6, 7] (by decide +kernel) (by decide +kernel)) (goodIn_sub (fun _ h => List.mem_cons_of_mem _ (List.mem_append_right _ h)) (by decide +kernel))
set_option maxRecDepth 20000 in
theorem gX2_unwish_X2_checkPerson : GoodIn wsX2_unwish (va_wsS RX2 67 yX2_checkPerson wsX2_checkPerson) := goodIn_app (goodIn_of _ (by decide +kernel)) ggX2_unwish_X2_checkPerson
set_option maxRecDepth 20000 in
theorem ggX2_unwish_X0_hasWish : GoodIn wsX2_unwish wsX0_hasWish := goodIn_r _ [11, 12, 32, 33, 34, 35, 36, 37] (by decide +kernel) (by decide +kernel)
set_option maxRecDepth 20000 in
theorem gX2_unwish_X0_hasWish_n155 : GoodIn wsX2_unwish (wsX0_hasWish) := ggX2_unwish_X0_hasWish
set_option maxRecDepth 20000 in
theorem ggX2_unwish_X0_setWish : GoodIn wsX2_unwish wsX0_setWish := goodIn_r _ [15, 12, 16, 32, 33, 34, 35, 36, 37] (by decide +kernel) (by decide +kernel)
set_option maxRecDepth 20000 in
theorem gX2_unwish_X0_setWish_n158 : GoodIn wsX2_unwish (wsX0_setWish) := ggX2_unwish_X0_setWish
theorem dX2_unwish_0 : decode cX2_unwish 0 = .ok (.iload_n 1, 1) := by decide +kernel
theorem dX2_unwish_1 : decode cX2_unwish 1 = .ok (.invokestatic 67, 3) := by decide +kernel
theorem dX2_unwish_4 : decode cX2_unwish 4 = .ok (.aload_n 0, 1) := by decide +kernel
theorem dX2_unwish_5 : decode cX2_unwish 5 = .ok (.getfield 47, 3) := by decide +kernel
theorem dX2_unwish_8 : decode cX2_unwish 8 = .ok (.iload_n 1, 1) := by decide +kernel
theorem dX2_unwish_9 : decode cX2_unwish 9 = .ok (.invokevirtual 155, 3) := by decide +kernel
theorem dX2_unwish_12 : decode cX2_unwish 12 = .ok (.istore_n 2, 1) := by decide +kernel
theorem dX2_unwish_13 : decode cX2_unwish 13 = .ok (.aload_n 0, 1) := by decide +kernel
theorem dX2_unwish_14 : decode cX2_unwish 14 = .ok (.getfield 47, 3) := by decide +kernel
theorem dX2_unwish_17 : decode cX2_unwish 17 = .ok (.iload_n 1, 1) := by decide +kernel
theorem dX2_unwish_18 : decode cX2_unwish 18 = .ok (.iconst (-1), 1) := by decide +kernel
theorem dX2_unwish_19 : decode cX2_unwish 19 = .ok (.iconst (-1), 1) := by decide +kernel
theorem dX2_unwish_20 : decode cX2_unwish 20 = .ok (.invokevirtual 158, 3) := by decide +kernel
theorem dX2_unwish_23 : decode cX2_unwish 23 = .ok (.iload_n 2, 1) := by decide +kernel
theorem dX2_unwish_24 : decode cX2_unwish 24 = .ok (.ireturn, 1) := by decide +kernel
set_option maxRecDepth 20000 in
theorem ggX2_chain_X0_findBest : GoodIn wsX2_chain wsX0_findBest := goodIn_r _ [6, 7, 8, 9, 10, 11, 12, 4, 13, 14, 15, 16, 17, 18, 19, 20, 21, 22, 23, 24, 25, 26, 27, 28, 29, 30, 31, 32, 33, 34, 35, 51, 52, 53, 54, 55, 56] (by decide +kernel) (by decide +kernel)
set_option maxRecDepth 20000 in
theorem gX2_chain_X0_findBest_n161 : GoodIn wsX2_chain (wsX0_findBest) := ggX2_chain_X0_findBest
theorem dX2_chain_0 : decode cX2_chain 0 = .ok (.aload_n 0, 1) := by decide +kernel
theorem dX2_chain_1 : decode cX2_chain 1 = .ok (.getfield 47, 3) := by decide +kernel
theorem dX2_chain_4 : decode cX2_chain 4 = .ok (.aload_n 0, 1) := by decide +kernel
theorem dX2_chain_5 : decode cX2_chain 5 = .ok (.getfield 11, 3) := by decide +kernel
theorem dX2_chain_8 : decode cX2_chain 8 = .ok (.invokevirtual 161, 3) := by decide +kernel
theorem dX2_chain_11 : decode cX2_chain 11 = .ok (.aload_n 0, 1) := by decide +kernel
theorem dX2_chain_12 : decode cX2_chain 12 = .ok (.getfield 47, 3) := by decide +kernel
theorem dX2_chain_15 : decode cX2_chain 15 = .ok (.getfield 165, 3) := by decide +kernel
theorem dX2_chain_18 : decode cX2_chain 18 = .ok (.ireturn, 1) := by decide +kernel
set_option maxRecDepth 20000 in
theorem ggX2_chainByOrders_X0_longestByOrders : GoodIn wsX2_chainByOrders wsX0_longestByOrders := goodIn_r _ [6, 7, 8, 9, 10, 11, 12, 13, 14, 15, 4, 16, 17, 18, 19, 20, 21, 22, 23, 24, 25, 26, 27, 28, 29, 30, 31, 32, 33, 34, 35, 36, 37, 38, 54, 55, 56, 57, 58, 59] (by decide +kernel) (by decide +kernel)
set_option maxRecDepth 20000 in
theorem gX2_chainByOrders_X0_longestByOrders_n168 : GoodIn wsX2_chainByOrders (wsX0_longestByOrders) := ggX2_chainByOrders_X0_longestByOrders
theorem dX2_chainByOrders_0 : decode cX2_chainByOrders 0 = .ok (.aload_n 0, 1) := by decide +kernel
theorem dX2_chainByOrders_1 : decode cX2_chainByOrders 1 = .ok (.getfield 47, 3) := by decide +kernel
theorem dX2_chainByOrders_4 : decode cX2_chainByOrders 4 = .ok (.aload_n 0, 1) := by decide +kernel
theorem dX2_chainByOrders_5 : decode cX2_chainByOrders 5 = .ok (.getfield 11, 3) := by decide +kernel
theorem dX2_chainByOrders_8 : decode cX2_chainByOrders 8 = .ok (.invokevirtual 168, 3) := by decide +kernel
theorem dX2_chainByOrders_11 : decode cX2_chainByOrders 11 = .ok (.ireturn, 1) := by decide +kernel
set_option maxRecDepth 20000 in
theorem ggX2_chainAt_X0_findBest : GoodIn wsX2_chainAt wsX0_findBest := goodIn_r _ [8, 9, 10, 11, 12, 13, 14, 6, 15, 16, 17, 18, 19, 20, 21, 22, 23, 24, 25, 26, 27, 28, 29, 30, 31, 32, 33, 34, 35, 36, 37, 53, 54, 55, 56, 57, 58] (by decide +kernel) (by decide +kernel)
set_option maxRecDepth 20000 in
theorem gX2_chainAt_X0_findBest_n161 : GoodIn wsX2_chainAt (wsX0_findBest) := ggX2_chainAt_X0_findBest
theorem dX2_chainAt_0 : decode cX2_chainAt 0 = .ok (.aload_n 0, 1) := by decide +kernel
theorem dX2_chainAt_1 : decode cX2_chainAt 1 = .ok (.getfield 47, 3) := by decide +kernel
theorem dX2_chainAt_4 : decode cX2_chainAt 4 = .ok (.aload_n 0, 1) := by decide +kernel
theorem dX2_chainAt_5 : decode cX2_chainAt 5 = .ok (.getfield 11, 3) := by decide +kernel
theorem dX2_chainAt_8 : decode cX2_chainAt 8 = .ok (.invokevirtual 161, 3) := by decide +kernel
theorem dX2_chainAt_11 : decode cX2_chainAt 11 = .ok (.iload_n 1, 1) := by decide +kernel
theorem dX2_chainAt_12 : decode cX2_chainAt 12 = .ok (.ifCond .lt 14, 3) := by decide +kernel
theorem dX2_chainAt_15 : decode cX2_chainAt 15 = .ok (.iload_n 1, 1) := by decide +kernel
theorem dX2_chainAt_16 : decode cX2_chainAt 16 = .ok (.aload_n 0, 1) := by decide +kernel
theorem dX2_chainAt_17 : decode cX2_chainAt 17 = .ok (.getfield 47, 3) := by decide +kernel
theorem dX2_chainAt_20 : decode cX2_chainAt 20 = .ok (.getfield 165, 3) := by decide +kernel
theorem dX2_chainAt_23 : decode cX2_chainAt 23 = .ok (.if_icmp .lt 13, 3) := by decide +kernel
theorem dX2_chainAt_26 : decode cX2_chainAt 26 = .ok (.new 108, 3) := by decide +kernel
theorem dX2_chainAt_29 : decode cX2_chainAt 29 = .ok (.dup, 1) := by decide +kernel
theorem dX2_chainAt_30 : decode cX2_chainAt 30 = .ok (.ldc 172, 2) := by decide +kernel
theorem dX2_chainAt_32 : decode cX2_chainAt 32 = .ok (.invokespecial 112, 3) := by decide +kernel
theorem dX2_chainAt_35 : decode cX2_chainAt 35 = .ok (.athrow, 1) := by decide +kernel
theorem dX2_chainAt_36 : decode cX2_chainAt 36 = .ok (.aload_n 0, 1) := by decide +kernel
theorem dX2_chainAt_37 : decode cX2_chainAt 37 = .ok (.getfield 47, 3) := by decide +kernel
theorem dX2_chainAt_40 : decode cX2_chainAt 40 = .ok (.getfield 174, 3) := by decide +kernel
theorem dX2_chainAt_43 : decode cX2_chainAt 43 = .ok (.iload_n 1, 1) := by decide +kernel
theorem dX2_chainAt_44 : decode cX2_chainAt 44 = .ok (.iaload, 1) := by decide +kernel
theorem dX2_chainAt_45 : decode cX2_chainAt 45 = .ok (.ireturn, 1) := by decide +kernel
set_option maxRecDepth 20000 in
theorem ggX2_fair_X0_findBest : GoodIn wsX2_fair wsX0_findBest := goodIn_r _ [6, 7, 8, 9, 10, 11, 12, 4, 13, 14, 15, 16, 17, 18, 19, 20, 21, 22, 23, 24, 25, 26, 27, 28, 29, 30, 31, 32, 33, 34, 35, 54, 55, 56, 57, 58, 59] (by decide +kernel) (by decide +kernel)
set_option maxRecDepth 20000 in
theorem gX2_fair_X0_findBest_n161 : GoodIn wsX2_fair (wsX0_findBest) := ggX2_fair_X0_findBest
set_option maxRecDepth 20000 in
theorem ggX2_fair_X0_exchange : GoodIn wsX2_fair wsX0_exchange := goodIn_r _ [38, 7, 22, 31, 54, 55, 56, 57, 58, 59] (by decide +kernel) (by decide +kernel)
set_option maxRecDepth 20000 in
theorem gX2_fair_X0_exchange_n177 : GoodIn wsX2_fair (wsX0_exchange) := ggX2_fair_X0_exchange
theorem dX2_fair_0 : decode cX2_fair 0 = .ok (.aload_n 0, 1) := by decide +kernel
theorem dX2_fair_1 : decode cX2_fair 1 = .ok (.getfield 47, 3) := by decide +kernel
theorem dX2_fair_4 : decode cX2_fair 4 = .ok (.aload_n 0, 1) := by decide +kernel
theorem dX2_fair_5 : decode cX2_fair 5 = .ok (.getfield 11, 3) := by decide +kernel
theorem dX2_fair_8 : decode cX2_fair 8 = .ok (.invokevirtual 161, 3) := by decide +kernel
theorem dX2_fair_11 : decode cX2_fair 11 = .ok (.aload_n 0, 1) := by decide +kernel
theorem dX2_fair_12 : decode cX2_fair 12 = .ok (.getfield 47, 3) := by decide +kernel
theorem dX2_fair_15 : decode cX2_fair 15 = .ok (.aload_n 0, 1) := by decide +kernel
theorem dX2_fair_16 : decode cX2_fair 16 = .ok (.getfield 11, 3) := by decide +kernel
theorem dX2_fair_19 : decode cX2_fair 19 = .ok (.invokevirtual 177, 3) := by decide +kernel
theorem dX2_fair_22 : decode cX2_fair 22 = .ok (.aload_n 0, 1) := by decide +kernel
theorem dX2_fair_23 : decode cX2_fair 23 = .ok (.getfield 47, 3) := by decide +kernel
theorem dX2_fair_26 : decode cX2_fair 26 = .ok (.getfield 165, 3) := by decide +kernel
theorem dX2_fair_29 : decode cX2_fair 29 = .ok (.ireturn, 1) := by decide +kernel
set_option maxRecDepth 20000 in
theorem ggX2_sign_X2_checkRange : GoodIn wsX2_sign wsX2_checkRange := goodIn_ca (goodIn_r _ [10, 11, 12] (by decide +kernel) (by decide +kernel)) (goodIn_sub (fun _ h => List.mem_cons_of_mem _ (List.mem_append_right _ h)) (by decide +kernel))
set_option maxRecDepth 20000 in
theorem gX2_sign_X2_checkRange : GoodIn wsX2_sign (va_wsS RX2 74 yX2_checkRange wsX2_checkRange) := goodIn_app (goodIn_of _ (by decide +kernel)) ggX2_sign_X2_checkRange
set_option maxRecDepth 20000 in
theorem ggX2_sign_X1_copyFrom : GoodIn wsX2_sign wsX1_copyFrom := goodIn_r _ [16, 17, 18, 19, 20, 21, 22, 23, 39, 40, 41] (by decide +kernel) (by decide +kernel)
set_option maxRecDepth 20000 in
theorem gX2_sign_X1_copyFrom_n126 : GoodIn wsX2_sign (wsX1_copyFrom) := ggX2_sign_X1_copyFrom
theorem dX2_sign_0 : decode cX2_sign 0 = .ok (.iload_n 1, 1) := by decide +kernel
theorem dX2_sign_1 : decode cX2_sign 1 = .ok (.iconst 1, 1) := by decide +kernel
theorem dX2_sign_2 : decode cX2_sign 2 = .ok (.bipush 100, 2) := by decide +kernel
theorem dX2_sign_4 : decode cX2_sign 4 = .ok (.invokestatic 74, 3) := by decide +kernel
theorem dX2_sign_7 : decode cX2_sign 7 = .ok (.aload_n 0, 1) := by decide +kernel
theorem dX2_sign_8 : decode cX2_sign 8 = .ok (.getfield 24, 3) := by decide +kernel
theorem dX2_sign_11 : decode cX2_sign 11 = .ok (.getfield 180, 3) := by decide +kernel
theorem dX2_sign_14 : decode cX2_sign 14 = .ok (.iconst 3, 1) := by decide +kernel
theorem dX2_sign_15 : decode cX2_sign 15 = .ok (.if_icmp .gt 14, 3) := by decide +kernel
theorem dX2_sign_18 : decode cX2_sign 18 = .ok (.aload_n 0, 1) := by decide +kernel
theorem dX2_sign_19 : decode cX2_sign 19 = .ok (.getfield 24, 3) := by decide +kernel
theorem dX2_sign_22 : decode cX2_sign 22 = .ok (.getfield 183, 3) := by decide +kernel
theorem dX2_sign_25 : decode cX2_sign 25 = .ok (.iconst 3, 1) := by decide +kernel
theorem dX2_sign_26 : decode cX2_sign 26 = .ok (.if_icmp .le 13, 3) := by decide +kernel
theorem dX2_sign_29 : decode cX2_sign 29 = .ok (.new 79, 3) := by decide +kernel
theorem dX2_sign_32 : decode cX2_sign 32 = .ok (.dup, 1) := by decide +kernel
theorem dX2_sign_33 : decode cX2_sign 33 = .ok (.ldc 186, 2) := by decide +kernel
theorem dX2_sign_35 : decode cX2_sign 35 = .ok (.invokespecial 83, 3) := by decide +kernel
theorem dX2_sign_38 : decode cX2_sign 38 = .ok (.athrow, 1) := by decide +kernel
theorem dX2_sign_39 : decode cX2_sign 39 = .ok (.aload_n 0, 1) := by decide +kernel
theorem dX2_sign_40 : decode cX2_sign 40 = .ok (.getfield 188, 3) := by decide +kernel
theorem dX2_sign_43 : decode cX2_sign 43 = .ok (.bipush 8, 2) := by decide +kernel
theorem dX2_sign_45 : decode cX2_sign 45 = .ok (.if_icmp .lt 13, 3) := by decide +kernel
theorem dX2_sign_48 : decode cX2_sign 48 = .ok (.new 79, 3) := by decide +kernel
theorem dX2_sign_51 : decode cX2_sign 51 = .ok (.dup, 1) := by decide +kernel
theorem dX2_sign_52 : decode cX2_sign 52 = .ok (.ldc 191, 2) := by decide +kernel
theorem dX2_sign_54 : decode cX2_sign 54 = .ok (.invokespecial 83, 3) := by decide +kernel
theorem dX2_sign_57 : decode cX2_sign 57 = .ok (.athrow, 1) := by decide +kernel
theorem dX2_sign_58 : decode cX2_sign 58 = .ok (.aload_n 0, 1) := by decide +kernel
theorem dX2_sign_59 : decode cX2_sign 59 = .ok (.getfield 188, 3) := by decide +kernel
theorem dX2_sign_62 : decode cX2_sign 62 = .ok (.istore_n 2, 1) := by decide +kernel
theorem dX2_sign_63 : decode cX2_sign 63 = .ok (.aload_n 0, 1) := by decide +kernel
theorem dX2_sign_64 : decode cX2_sign 64 = .ok (.getfield 51, 3) := by decide +kernel
theorem dX2_sign_67 : decode cX2_sign 67 = .ok (.iload_n 2, 1) := by decide +kernel
theorem dX2_sign_68 : decode cX2_sign 68 = .ok (.aaload, 1) := by decide +kernel
theorem dX2_sign_69 : decode cX2_sign 69 = .ok (.aload_n 0, 1) := by decide +kernel
theorem dX2_sign_70 : decode cX2_sign 70 = .ok (.getfield 24, 3) := by decide +kernel
theorem dX2_sign_73 : decode cX2_sign 73 = .ok (.invokevirtual 126, 3) := by decide +kernel
theorem dX2_sign_76 : decode cX2_sign 76 = .ok (.aload_n 0, 1) := by decide +kernel
theorem dX2_sign_77 : decode cX2_sign 77 = .ok (.getfield 54, 3) := by decide +kernel
theorem dX2_sign_80 : decode cX2_sign 80 = .ok (.iload_n 2, 1) := by decide +kernel
theorem dX2_sign_81 : decode cX2_sign 81 = .ok (.iload_n 1, 1) := by decide +kernel
theorem dX2_sign_82 : decode cX2_sign 82 = .ok (.iastore, 1) := by decide +kernel
theorem dX2_sign_83 : decode cX2_sign 83 = .ok (.aload_n 0, 1) := by decide +kernel
theorem dX2_sign_84 : decode cX2_sign 84 = .ok (.dup, 1) := by decide +kernel
theorem dX2_sign_85 : decode cX2_sign 85 = .ok (.getfield 188, 3) := by decide +kernel
theorem dX2_sign_88 : decode cX2_sign 88 = .ok (.iconst 1, 1) := by decide +kernel
theorem dX2_sign_89 : decode cX2_sign 89 = .ok (.iadd, 1) := by decide +kernel
theorem dX2_sign_90 : decode cX2_sign 90 = .ok (.putfield 188, 3) := by decide +kernel
theorem dX2_sign_93 : decode cX2_sign 93 = .ok (.iload_n 2, 1) := by decide +kernel
theorem dX2_sign_94 : decode cX2_sign 94 = .ok (.ireturn, 1) := by decide +kernel
set_option maxRecDepth 20000 in
theorem ggX2_stands_X2_checkPattern : GoodIn wsX2_stands wsX2_checkPattern := goodIn_ca (goodIn_r _ [10, 1, 2, 11, 27, 28, 29, 30, 31, 32, 33, 34, 35, 36, 37, 38, 39, 40, 41] (by decide +kernel) (by decide +kernel)) (goodIn_sub (fun _ h => List.mem_cons_of_mem _ (List.mem_append_right _ h)) (by decide +kernel))
set_option maxRecDepth 20000 in
theorem gX2_stands_X2_checkPattern : GoodIn wsX2_stands (wsV RX2 130 RX2 yX2_checkPattern wsX2_checkPattern) := goodIn_app (goodIn_of _ (by decide +kernel)) ggX2_stands_X2_checkPattern
set_option maxRecDepth 20000 in
theorem ggX2_stands_X1_placesOf : GoodIn wsX2_stands wsX1_placesOf := goodIn_r _ [15, 16, 17, 18, 19, 20, 13, 21, 22, 23, 24, 25, 26, 42, 43, 44] (by decide +kernel) (by decide +kernel)
set_option maxRecDepth 20000 in
theorem gX2_stands_X1_placesOf_n195 : GoodIn wsX2_stands (wsX1_placesOf) := ggX2_stands_X1_placesOf
theorem dX2_stands_0 : decode cX2_stands 0 = .ok (.iload_n 1, 1) := by decide +kernel
theorem dX2_stands_1 : decode cX2_stands 1 = .ok (.ifCond .lt 11, 3) := by decide +kernel
theorem dX2_stands_4 : decode cX2_stands 4 = .ok (.iload_n 1, 1) := by decide +kernel
theorem dX2_stands_5 : decode cX2_stands 5 = .ok (.aload_n 0, 1) := by decide +kernel
theorem dX2_stands_6 : decode cX2_stands 6 = .ok (.getfield 188, 3) := by decide +kernel
theorem dX2_stands_9 : decode cX2_stands 9 = .ok (.if_icmp .lt 13, 3) := by decide +kernel
theorem dX2_stands_12 : decode cX2_stands 12 = .ok (.new 108, 3) := by decide +kernel
theorem dX2_stands_15 : decode cX2_stands 15 = .ok (.dup, 1) := by decide +kernel
theorem dX2_stands_16 : decode cX2_stands 16 = .ok (.ldc 193, 2) := by decide +kernel
theorem dX2_stands_18 : decode cX2_stands 18 = .ok (.invokespecial 112, 3) := by decide +kernel
theorem dX2_stands_21 : decode cX2_stands 21 = .ok (.athrow, 1) := by decide +kernel
theorem dX2_stands_22 : decode cX2_stands 22 = .ok (.aload_n 0, 1) := by decide +kernel
theorem dX2_stands_23 : decode cX2_stands 23 = .ok (.iload_n 2, 1) := by decide +kernel
theorem dX2_stands_24 : decode cX2_stands 24 = .ok (.invokevirtual 130, 3) := by decide +kernel
theorem dX2_stands_27 : decode cX2_stands 27 = .ok (.aload_n 0, 1) := by decide +kernel
theorem dX2_stands_28 : decode cX2_stands 28 = .ok (.getfield 28, 3) := by decide +kernel
theorem dX2_stands_31 : decode cX2_stands 31 = .ok (.iload_n 2, 1) := by decide +kernel
theorem dX2_stands_32 : decode cX2_stands 32 = .ok (.aaload, 1) := by decide +kernel
theorem dX2_stands_33 : decode cX2_stands 33 = .ok (.aload_n 0, 1) := by decide +kernel
theorem dX2_stands_34 : decode cX2_stands 34 = .ok (.getfield 51, 3) := by decide +kernel
theorem dX2_stands_37 : decode cX2_stands 37 = .ok (.iload_n 1, 1) := by decide +kernel
theorem dX2_stands_38 : decode cX2_stands 38 = .ok (.aaload, 1) := by decide +kernel
theorem dX2_stands_39 : decode cX2_stands 39 = .ok (.invokevirtual 195, 3) := by decide +kernel
theorem dX2_stands_42 : decode cX2_stands 42 = .ok (.ireturn, 1) := by decide +kernel
set_option maxRecDepth 20000 in
theorem ggX2_story_X2_checkPattern : GoodIn wsX2_story wsX2_checkPattern := goodIn_ca (goodIn_r _ [5, 6, 7, 8, 32, 33, 34, 35, 36, 37, 38, 39, 40, 41, 42, 43, 44, 45, 46] (by decide +kernel) (by decide +kernel)) (goodIn_sub (fun _ h => List.mem_cons_of_mem _ (List.mem_append_right _ h)) (by decide +kernel))
set_option maxRecDepth 20000 in
theorem gX2_story_X2_checkPattern : GoodIn wsX2_story (wsV RX2 130 RX2 yX2_checkPattern wsX2_checkPattern) := goodIn_app (goodIn_of _ (by decide +kernel)) ggX2_story_X2_checkPattern
set_option maxRecDepth 20000 in
theorem ggX2_story_X2_storyOf : GoodIn wsX2_story wsX2_storyOf := goodIn_r _ [12, 13, 14, 15, 16, 17, 18, 19, 20, 21, 22, 23, 24, 25, 26, 27, 28, 29, 30, 31, 32, 33, 34, 35, 36, 37, 38, 39, 40, 41, 42, 43, 44, 45, 46, 47, 48, 49] (by decide +kernel) (by decide +kernel)
set_option maxRecDepth 20000 in
theorem gX2_story_X2_storyOf : GoodIn wsX2_story (wsV RX2 199 RX2 yX2_storyOf wsX2_storyOf) := goodIn_app (goodIn_of _ (by decide +kernel)) ggX2_story_X2_storyOf
theorem dX2_story_0 : decode cX2_story 0 = .ok (.aload_n 0, 1) := by decide +kernel
theorem dX2_story_1 : decode cX2_story 1 = .ok (.iload_n 1, 1) := by decide +kernel
theorem dX2_story_2 : decode cX2_story 2 = .ok (.invokevirtual 130, 3) := by decide +kernel
theorem dX2_story_5 : decode cX2_story 5 = .ok (.aload_n 0, 1) := by decide +kernel
theorem dX2_story_6 : decode cX2_story 6 = .ok (.iload_n 1, 1) := by decide +kernel
theorem dX2_story_7 : decode cX2_story 7 = .ok (.invokevirtual 199, 3) := by decide +kernel
theorem dX2_story_10 : decode cX2_story 10 = .ok (.ireturn, 1) := by decide +kernel
set_option maxRecDepth 20000 in
theorem ggX2_hear_X2_checkBelt : GoodIn wsX2_hear wsX2_checkBelt := goodIn_ca (goodIn_r _ [7, 8, 9, 10, 11, 12, 6, 13, 2, 40, 41, 42, 43, 44, 45, 46, 47, 48, 49, 50, 51, 52, 53, 54] (by decide +kernel) (by decide +kernel)) (goodIn_sub (fun _ h => List.mem_cons_of_mem _ (List.mem_append_right _ h)) (by decide +kernel))
set_option maxRecDepth 20000 in
theorem gX2_hear_X2_checkBelt : GoodIn wsX2_hear (wsV RX2 147 RX2 yX2_checkBelt wsX2_checkBelt) := goodIn_app (goodIn_of _ (by decide +kernel)) ggX2_hear_X2_checkBelt
set_option maxRecDepth 20000 in
theorem ggX2_hear_X2_checkPerson : GoodIn wsX2_hear wsX2_checkPerson := goodIn_ca (goodIn_r _ [16, 8, 9] (by decide +kernel) (by decide +kernel)) (goodIn_sub (fun _ h => List.mem_cons_of_mem _ (List.mem_append_right _ h)) (by decide +kernel))
set_option maxRecDepth 20000 in
theorem gX2_hear_X2_checkPerson : GoodIn wsX2_hear (va_wsS RX2 67 yX2_checkPerson wsX2_checkPerson) := goodIn_app (goodIn_of _ (by decide +kernel)) ggX2_hear_X2_checkPerson
set_option maxRecDepth 20000 in
theorem ggX2_hear_X2_storyOf : GoodIn wsX2_hear wsX2_storyOf := goodIn_r _ [20, 21, 22, 23, 24, 25, 26, 27, 28, 29, 30, 31, 32, 33, 34, 35, 36, 37, 38, 39, 40, 41, 42, 43, 44, 45, 46, 47, 48, 49, 50, 51, 52, 53, 54, 55, 56, 57] (by decide +kernel) (by decide +kernel)
set_option maxRecDepth 20000 in
theorem gX2_hear_X2_storyOf : GoodIn wsX2_hear (wsV RX2 199 RX2 yX2_storyOf wsX2_storyOf) := goodIn_app (goodIn_of _ (by decide +kernel)) ggX2_hear_X2_storyOf
theorem dX2_hear_0 : decode cX2_hear 0 = .ok (.aload_n 0, 1) := by decide +kernel
theorem dX2_hear_1 : decode cX2_hear 1 = .ok (.iload_n 1, 1) := by decide +kernel
theorem dX2_hear_2 : decode cX2_hear 2 = .ok (.invokevirtual 147, 3) := by decide +kernel
theorem dX2_hear_5 : decode cX2_hear 5 = .ok (.iload_n 2, 1) := by decide +kernel
theorem dX2_hear_6 : decode cX2_hear 6 = .ok (.invokestatic 67, 3) := by decide +kernel
theorem dX2_hear_9 : decode cX2_hear 9 = .ok (.aload_n 0, 1) := by decide +kernel
theorem dX2_hear_10 : decode cX2_hear 10 = .ok (.getfield 57, 3) := by decide +kernel
theorem dX2_hear_13 : decode cX2_hear 13 = .ok (.iload_n 2, 1) := by decide +kernel
theorem dX2_hear_14 : decode cX2_hear 14 = .ok (.dup2, 1) := by decide +kernel
theorem dX2_hear_15 : decode cX2_hear 15 = .ok (.laload, 1) := by decide +kernel
theorem dX2_hear_16 : decode cX2_hear 16 = .ok (.aload_n 0, 1) := by decide +kernel
theorem dX2_hear_17 : decode cX2_hear 17 = .ok (.aload_n 0, 1) := by decide +kernel
theorem dX2_hear_18 : decode cX2_hear 18 = .ok (.getfield 35, 3) := by decide +kernel
theorem dX2_hear_21 : decode cX2_hear 21 = .ok (.iload_n 1, 1) := by decide +kernel
theorem dX2_hear_22 : decode cX2_hear 22 = .ok (.iaload, 1) := by decide +kernel
theorem dX2_hear_23 : decode cX2_hear 23 = .ok (.invokevirtual 199, 3) := by decide +kernel
theorem dX2_hear_26 : decode cX2_hear 26 = .ok (.i2l, 1) := by decide +kernel
theorem dX2_hear_27 : decode cX2_hear 27 = .ok (.ladd, 1) := by decide +kernel
theorem dX2_hear_28 : decode cX2_hear 28 = .ok (.lastore, 1) := by decide +kernel
theorem dX2_hear_29 : decode cX2_hear 29 = .ok (.aload_n 0, 1) := by decide +kernel
theorem dX2_hear_30 : decode cX2_hear 30 = .ok (.getfield 57, 3) := by decide +kernel
theorem dX2_hear_33 : decode cX2_hear 33 = .ok (.iload_n 2, 1) := by decide +kernel
theorem dX2_hear_34 : decode cX2_hear 34 = .ok (.laload, 1) := by decide +kernel
theorem dX2_hear_35 : decode cX2_hear 35 = .ok (.lreturn, 1) := by decide +kernel
set_option maxRecDepth 20000 in
theorem ggX2_ranked_X2_rankOf : GoodIn wsX2_ranked wsX2_rankOf := goodIn_r _ [7, 8, 9, 10, 11, 12, 13, 14, 15, 16, 17, 18, 19, 20, 21, 22, 23] (by decide +kernel) (by decide +kernel)
set_option maxRecDepth 20000 in
theorem gX2_ranked_X2_rankOf : GoodIn wsX2_ranked (wsV RX2 204 RX2 yX2_rankOf wsX2_rankOf) := goodIn_app (goodIn_of _ (by decide +kernel)) ggX2_ranked_X2_rankOf
theorem dX2_ranked_0 : decode cX2_ranked 0 = .ok (.iload_n 1, 1) := by decide +kernel
theorem dX2_ranked_1 : decode cX2_ranked 1 = .ok (.ifCond .lt 9, 3) := by decide +kernel
theorem dX2_ranked_4 : decode cX2_ranked 4 = .ok (.iload_n 1, 1) := by decide +kernel
theorem dX2_ranked_5 : decode cX2_ranked 5 = .ok (.bipush 7, 2) := by decide +kernel
theorem dX2_ranked_7 : decode cX2_ranked 7 = .ok (.if_icmp .lt 13, 3) := by decide +kernel
theorem dX2_ranked_10 : decode cX2_ranked 10 = .ok (.new 108, 3) := by decide +kernel
theorem dX2_ranked_13 : decode cX2_ranked 13 = .ok (.dup, 1) := by decide +kernel
theorem dX2_ranked_14 : decode cX2_ranked 14 = .ok (.ldc 202, 2) := by decide +kernel
theorem dX2_ranked_16 : decode cX2_ranked 16 = .ok (.invokespecial 112, 3) := by decide +kernel
theorem dX2_ranked_19 : decode cX2_ranked 19 = .ok (.athrow, 1) := by decide +kernel
theorem dX2_ranked_20 : decode cX2_ranked 20 = .ok (.iconst 0, 1) := by decide +kernel
theorem dX2_ranked_21 : decode cX2_ranked 21 = .ok (.istore_n 2, 1) := by decide +kernel
theorem dX2_ranked_22 : decode cX2_ranked 22 = .ok (.iload_n 2, 1) := by decide +kernel
theorem dX2_ranked_23 : decode cX2_ranked 23 = .ok (.bipush 6, 2) := by decide +kernel
theorem dX2_ranked_25 : decode cX2_ranked 25 = .ok (.if_icmp .ge 18, 3) := by decide +kernel
theorem dX2_ranked_28 : decode cX2_ranked 28 = .ok (.aload_n 0, 1) := by decide +kernel
theorem dX2_ranked_29 : decode cX2_ranked 29 = .ok (.iload_n 2, 1) := by decide +kernel
theorem dX2_ranked_30 : decode cX2_ranked 30 = .ok (.invokevirtual 204, 3) := by decide +kernel
theorem dX2_ranked_33 : decode cX2_ranked 33 = .ok (.iload_n 1, 1) := by decide +kernel
theorem dX2_ranked_34 : decode cX2_ranked 34 = .ok (.if_icmp .eq 9, 3) := by decide +kernel
theorem dX2_ranked_37 : decode cX2_ranked 37 = .ok (.iinc 2 1, 3) := by decide +kernel
theorem dX2_ranked_40 : decode cX2_ranked 40 = .ok (.goto (-18), 3) := by decide +kernel
theorem dX2_ranked_43 : decode cX2_ranked 43 = .ok (.iload_n 2, 1) := by decide +kernel
theorem dX2_ranked_44 : decode cX2_ranked 44 = .ok (.ireturn, 1) := by decide +kernel
theorem dX2_checkPerson_0 : decode cX2_checkPerson 0 = .ok (.iload_n 0, 1) := by decide +kernel
theorem dX2_checkPerson_1 : decode cX2_checkPerson 1 = .ok (.ifCond .lt 9, 3) := by decide +kernel
theorem dX2_checkPerson_4 : decode cX2_checkPerson 4 = .ok (.iload_n 0, 1) := by decide +kernel
theorem dX2_checkPerson_5 : decode cX2_checkPerson 5 = .ok (.bipush 7, 2) := by decide +kernel
theorem dX2_checkPerson_7 : decode cX2_checkPerson 7 = .ok (.if_icmp .lt 13, 3) := by decide +kernel
theorem dX2_checkPerson_10 : decode cX2_checkPerson 10 = .ok (.new 108, 3) := by decide +kernel
theorem dX2_checkPerson_13 : decode cX2_checkPerson 13 = .ok (.dup, 1) := by decide +kernel
theorem dX2_checkPerson_14 : decode cX2_checkPerson 14 = .ok (.ldc 207, 2) := by decide +kernel
theorem dX2_checkPerson_16 : decode cX2_checkPerson 16 = .ok (.invokespecial 112, 3) := by decide +kernel
theorem dX2_checkPerson_19 : decode cX2_checkPerson 19 = .ok (.athrow, 1) := by decide +kernel
theorem dX2_checkPerson_20 : decode cX2_checkPerson 20 = .ok (.return_, 1) := by decide +kernel
theorem dX2_checkColour_0 : decode cX2_checkColour 0 = .ok (.iload_n 0, 1) := by decide +kernel
theorem dX2_checkColour_1 : decode cX2_checkColour 1 = .ok (.ifCond .lt 9, 3) := by decide +kernel
theorem dX2_checkColour_4 : decode cX2_checkColour 4 = .ok (.iload_n 0, 1) := by decide +kernel
theorem dX2_checkColour_5 : decode cX2_checkColour 5 = .ok (.bipush 8, 2) := by decide +kernel
theorem dX2_checkColour_7 : decode cX2_checkColour 7 = .ok (.if_icmp .lt 13, 3) := by decide +kernel
theorem dX2_checkColour_10 : decode cX2_checkColour 10 = .ok (.new 108, 3) := by decide +kernel
theorem dX2_checkColour_13 : decode cX2_checkColour 13 = .ok (.dup, 1) := by decide +kernel
theorem dX2_checkColour_14 : decode cX2_checkColour 14 = .ok (.ldc 209, 2) := by decide +kernel
theorem dX2_checkColour_16 : decode cX2_checkColour 16 = .ok (.invokespecial 112, 3) := by decide +kernel
theorem dX2_checkColour_19 : decode cX2_checkColour 19 = .ok (.athrow, 1) := by decide +kernel
theorem dX2_checkColour_20 : decode cX2_checkColour 20 = .ok (.return_, 1) := by decide +kernel
theorem dX2_checkPattern_0 : decode cX2_checkPattern 0 = .ok (.iload_n 1, 1) := by decide +kernel
theorem dX2_checkPattern_1 : decode cX2_checkPattern 1 = .ok (.ifCond .lt 11, 3) := by decide +kernel
theorem dX2_checkPattern_4 : decode cX2_checkPattern 4 = .ok (.iload_n 1, 1) := by decide +kernel
theorem dX2_checkPattern_5 : decode cX2_checkPattern 5 = .ok (.aload_n 0, 1) := by decide +kernel
theorem dX2_checkPattern_6 : decode cX2_checkPattern 6 = .ok (.getfield 120, 3) := by decide +kernel
theorem dX2_checkPattern_9 : decode cX2_checkPattern 9 = .ok (.if_icmp .lt 13, 3) := by decide +kernel
theorem dX2_checkPattern_12 : decode cX2_checkPattern 12 = .ok (.new 108, 3) := by decide +kernel
theorem dX2_checkPattern_15 : decode cX2_checkPattern 15 = .ok (.dup, 1) := by decide +kernel
theorem dX2_checkPattern_16 : decode cX2_checkPattern 16 = .ok (.ldc 211, 2) := by decide +kernel
theorem dX2_checkPattern_18 : decode cX2_checkPattern 18 = .ok (.invokespecial 112, 3) := by decide +kernel
theorem dX2_checkPattern_21 : decode cX2_checkPattern 21 = .ok (.athrow, 1) := by decide +kernel
theorem dX2_checkPattern_22 : decode cX2_checkPattern 22 = .ok (.return_, 1) := by decide +kernel
set_option maxRecDepth 20000 in
theorem ggX2_checkBelt_X2_isBelt : GoodIn wsX2_checkBelt wsX2_isBelt := goodIn_r _ [7, 8, 9, 10, 11, 12, 13, 14, 15, 16, 17, 18, 19, 20, 21, 22, 23] (by decide +kernel) (by decide +kernel)
set_option maxRecDepth 20000 in
theorem gX2_checkBelt_X2_isBelt : GoodIn wsX2_checkBelt (wsV RX2 88 RX2 yX2_isBelt wsX2_isBelt) := goodIn_app (goodIn_of _ (by decide +kernel)) ggX2_checkBelt_X2_isBelt
theorem dX2_checkBelt_0 : decode cX2_checkBelt 0 = .ok (.aload_n 0, 1) := by decide +kernel
theorem dX2_checkBelt_1 : decode cX2_checkBelt 1 = .ok (.iload_n 1, 1) := by decide +kernel
theorem dX2_checkBelt_2 : decode cX2_checkBelt 2 = .ok (.invokevirtual 88, 3) := by decide +kernel
theorem dX2_checkBelt_5 : decode cX2_checkBelt 5 = .ok (.ifCond .ne 13, 3) := by decide +kernel
theorem dX2_checkBelt_8 : decode cX2_checkBelt 8 = .ok (.new 108, 3) := by decide +kernel
theorem dX2_checkBelt_11 : decode cX2_checkBelt 11 = .ok (.dup, 1) := by decide +kernel
theorem dX2_checkBelt_12 : decode cX2_checkBelt 12 = .ok (.ldc 213, 2) := by decide +kernel
theorem dX2_checkBelt_14 : decode cX2_checkBelt 14 = .ok (.invokespecial 112, 3) := by decide +kernel
theorem dX2_checkBelt_17 : decode cX2_checkBelt 17 = .ok (.athrow, 1) := by decide +kernel
theorem dX2_checkBelt_18 : decode cX2_checkBelt 18 = .ok (.return_, 1) := by decide +kernel
theorem dX2_checkRange_0 : decode cX2_checkRange 0 = .ok (.iload_n 0, 1) := by decide +kernel
theorem dX2_checkRange_1 : decode cX2_checkRange 1 = .ok (.iload_n 1, 1) := by decide +kernel
theorem dX2_checkRange_2 : decode cX2_checkRange 2 = .ok (.if_icmp .lt 8, 3) := by decide +kernel
theorem dX2_checkRange_5 : decode cX2_checkRange 5 = .ok (.iload_n 0, 1) := by decide +kernel
theorem dX2_checkRange_6 : decode cX2_checkRange 6 = .ok (.iload_n 2, 1) := by decide +kernel
theorem dX2_checkRange_7 : decode cX2_checkRange 7 = .ok (.if_icmp .le 13, 3) := by decide +kernel
theorem dX2_checkRange_10 : decode cX2_checkRange 10 = .ok (.new 150, 3) := by decide +kernel
theorem dX2_checkRange_13 : decode cX2_checkRange 13 = .ok (.dup, 1) := by decide +kernel
theorem dX2_checkRange_14 : decode cX2_checkRange 14 = .ok (.ldc 215, 2) := by decide +kernel
theorem dX2_checkRange_16 : decode cX2_checkRange 16 = .ok (.invokespecial 154, 3) := by decide +kernel
theorem dX2_checkRange_19 : decode cX2_checkRange 19 = .ok (.athrow, 1) := by decide +kernel
theorem dX2_checkRange_20 : decode cX2_checkRange 20 = .ok (.return_, 1) := by decide +kernel
theorem dX2_isBelt_0 : decode cX2_isBelt 0 = .ok (.iload_n 1, 1) := by decide +kernel
theorem dX2_isBelt_1 : decode cX2_isBelt 1 = .ok (.ifCond .lt 23, 3) := by decide +kernel
theorem dX2_isBelt_4 : decode cX2_isBelt 4 = .ok (.iload_n 1, 1) := by decide +kernel
theorem dX2_isBelt_5 : decode cX2_isBelt 5 = .ok (.bipush 20, 2) := by decide +kernel
theorem dX2_isBelt_7 : decode cX2_isBelt 7 = .ok (.if_icmp .ge 17, 3) := by decide +kernel
theorem dX2_isBelt_10 : decode cX2_isBelt 10 = .ok (.aload_n 0, 1) := by decide +kernel
theorem dX2_isBelt_11 : decode cX2_isBelt 11 = .ok (.getfield 35, 3) := by decide +kernel
theorem dX2_isBelt_14 : decode cX2_isBelt 14 = .ok (.iload_n 1, 1) := by decide +kernel
theorem dX2_isBelt_15 : decode cX2_isBelt 15 = .ok (.iaload, 1) := by decide +kernel
theorem dX2_isBelt_16 : decode cX2_isBelt 16 = .ok (.iconst (-1), 1) := by decide +kernel
theorem dX2_isBelt_17 : decode cX2_isBelt 17 = .ok (.if_icmp .eq 7, 3) := by decide +kernel
theorem dX2_isBelt_20 : decode cX2_isBelt 20 = .ok (.iconst 1, 1) := by decide +kernel
theorem dX2_isBelt_21 : decode cX2_isBelt 21 = .ok (.goto 4, 3) := by decide +kernel
theorem dX2_isBelt_24 : decode cX2_isBelt 24 = .ok (.iconst 0, 1) := by decide +kernel
theorem dX2_isBelt_25 : decode cX2_isBelt 25 = .ok (.ireturn, 1) := by decide +kernel
set_option maxRecDepth 20000 in
theorem ggX2_lowestFreeBelt_X2_isBelt : GoodIn wsX2_lowestFreeBelt wsX2_isBelt := goodIn_r _ [5, 6, 7, 8, 9, 10, 11, 12, 13, 14, 15, 16, 17, 18, 19, 20, 21] (by decide +kernel) (by decide +kernel)
set_option maxRecDepth 20000 in
theorem gX2_lowestFreeBelt_X2_isBelt : GoodIn wsX2_lowestFreeBelt (wsV RX2 88 RX2 yX2_isBelt wsX2_isBelt) := goodIn_app (goodIn_of _ (by decide +kernel)) ggX2_lowestFreeBelt_X2_isBelt
theorem dX2_lowestFreeBelt_0 : decode cX2_lowestFreeBelt 0 = .ok (.iconst 0, 1) := by decide +kernel
theorem dX2_lowestFreeBelt_1 : decode cX2_lowestFreeBelt 1 = .ok (.istore_n 1, 1) := by decide +kernel
theorem dX2_lowestFreeBelt_2 : decode cX2_lowestFreeBelt 2 = .ok (.iload_n 1, 1) := by decide +kernel
theorem dX2_lowestFreeBelt_3 : decode cX2_lowestFreeBelt 3 = .ok (.bipush 20, 2) := by decide +kernel
theorem dX2_lowestFreeBelt_5 : decode cX2_lowestFreeBelt 5 = .ok (.if_icmp .ge 19, 3) := by decide +kernel
theorem dX2_lowestFreeBelt_8 : decode cX2_lowestFreeBelt 8 = .ok (.aload_n 0, 1) := by decide +kernel
theorem dX2_lowestFreeBelt_9 : decode cX2_lowestFreeBelt 9 = .ok (.iload_n 1, 1) := by decide +kernel
theorem dX2_lowestFreeBelt_10 : decode cX2_lowestFreeBelt 10 = .ok (.invokevirtual 88, 3) := by decide +kernel
theorem dX2_lowestFreeBelt_13 : decode cX2_lowestFreeBelt 13 = .ok (.ifCond .ne 5, 3) := by decide +kernel
theorem dX2_lowestFreeBelt_16 : decode cX2_lowestFreeBelt 16 = .ok (.iload_n 1, 1) := by decide +kernel
theorem dX2_lowestFreeBelt_17 : decode cX2_lowestFreeBelt 17 = .ok (.ireturn, 1) := by decide +kernel
theorem dX2_lowestFreeBelt_18 : decode cX2_lowestFreeBelt 18 = .ok (.iinc 1 1, 3) := by decide +kernel
theorem dX2_lowestFreeBelt_21 : decode cX2_lowestFreeBelt 21 = .ok (.goto (-19), 3) := by decide +kernel
theorem dX2_lowestFreeBelt_24 : decode cX2_lowestFreeBelt 24 = .ok (.iconst (-1), 1) := by decide +kernel
theorem dX2_lowestFreeBelt_25 : decode cX2_lowestFreeBelt 25 = .ok (.ireturn, 1) := by decide +kernel
set_option maxRecDepth 20000 in
theorem ggX2_originOf_X1_hasImage : GoodIn wsX2_originOf wsX1_hasImage := goodIn_r _ [5, 6, 7, 8, 9, 10, 3, 11, 12, 13, 14, 15, 16, 32, 33, 34] (by decide +kernel) (by decide +kernel)
set_option maxRecDepth 20000 in
theorem gX2_originOf_X1_hasImage_n133 : GoodIn wsX2_originOf (wsX1_hasImage) := ggX2_originOf_X1_hasImage
theorem dX2_originOf_0 : decode cX2_originOf 0 = .ok (.iconst 0, 1) := by decide +kernel
theorem dX2_originOf_1 : decode cX2_originOf 1 = .ok (.istore_n 2, 1) := by decide +kernel
theorem dX2_originOf_2 : decode cX2_originOf 2 = .ok (.iload_n 2, 1) := by decide +kernel
theorem dX2_originOf_3 : decode cX2_originOf 3 = .ok (.iload_n 1, 1) := by decide +kernel
theorem dX2_originOf_4 : decode cX2_originOf 4 = .ok (.if_icmp .ge 44, 3) := by decide +kernel
theorem dX2_originOf_7 : decode cX2_originOf 7 = .ok (.iconst 0, 1) := by decide +kernel
theorem dX2_originOf_8 : decode cX2_originOf 8 = .ok (.istore_n 3, 1) := by decide +kernel
theorem dX2_originOf_9 : decode cX2_originOf 9 = .ok (.iload_n 3, 1) := by decide +kernel
theorem dX2_originOf_10 : decode cX2_originOf 10 = .ok (.bipush 8, 2) := by decide +kernel
theorem dX2_originOf_12 : decode cX2_originOf 12 = .ok (.if_icmp .ge 30, 3) := by decide +kernel
theorem dX2_originOf_15 : decode cX2_originOf 15 = .ok (.aload_n 0, 1) := by decide +kernel
theorem dX2_originOf_16 : decode cX2_originOf 16 = .ok (.getfield 28, 3) := by decide +kernel
theorem dX2_originOf_19 : decode cX2_originOf 19 = .ok (.iload_n 1, 1) := by decide +kernel
theorem dX2_originOf_20 : decode cX2_originOf 20 = .ok (.aaload, 1) := by decide +kernel
theorem dX2_originOf_21 : decode cX2_originOf 21 = .ok (.iload_n 3, 1) := by decide +kernel
theorem dX2_originOf_22 : decode cX2_originOf 22 = .ok (.aload_n 0, 1) := by decide +kernel
theorem dX2_originOf_23 : decode cX2_originOf 23 = .ok (.getfield 28, 3) := by decide +kernel
theorem dX2_originOf_26 : decode cX2_originOf 26 = .ok (.iload_n 2, 1) := by decide +kernel
theorem dX2_originOf_27 : decode cX2_originOf 27 = .ok (.aaload, 1) := by decide +kernel
theorem dX2_originOf_28 : decode cX2_originOf 28 = .ok (.invokevirtual 133, 3) := by decide +kernel
theorem dX2_originOf_31 : decode cX2_originOf 31 = .ok (.ifCond .eq 5, 3) := by decide +kernel
theorem dX2_originOf_34 : decode cX2_originOf 34 = .ok (.iload_n 2, 1) := by decide +kernel
theorem dX2_originOf_35 : decode cX2_originOf 35 = .ok (.ireturn, 1) := by decide +kernel
theorem dX2_originOf_36 : decode cX2_originOf 36 = .ok (.iinc 3 1, 3) := by decide +kernel
theorem dX2_originOf_39 : decode cX2_originOf 39 = .ok (.goto (-30), 3) := by decide +kernel
theorem dX2_originOf_42 : decode cX2_originOf 42 = .ok (.iinc 2 1, 3) := by decide +kernel
theorem dX2_originOf_45 : decode cX2_originOf 45 = .ok (.goto (-43), 3) := by decide +kernel
theorem dX2_originOf_48 : decode cX2_originOf 48 = .ok (.iload_n 1, 1) := by decide +kernel
theorem dX2_originOf_49 : decode cX2_originOf 49 = .ok (.ireturn, 1) := by decide +kernel
set_option maxRecDepth 20000 in
theorem ggX2_storyOf_X1_placesOf : GoodIn wsX2_storyOf wsX1_placesOf := goodIn_r _ [8, 9, 10, 11, 12, 13, 6, 14, 15, 16, 17, 18, 19, 35, 36, 37] (by decide +kernel) (by decide +kernel)
set_option maxRecDepth 20000 in
theorem gX2_storyOf_X1_placesOf_n195 : GoodIn wsX2_storyOf (wsX1_placesOf) := ggX2_storyOf_X1_placesOf
theorem dX2_storyOf_0 : decode cX2_storyOf 0 = .ok (.iconst 0, 1) := by decide +kernel
theorem dX2_storyOf_1 : decode cX2_storyOf 1 = .ok (.istore_n 2, 1) := by decide +kernel
theorem dX2_storyOf_2 : decode cX2_storyOf 2 = .ok (.iconst 0, 1) := by decide +kernel
theorem dX2_storyOf_3 : decode cX2_storyOf 3 = .ok (.istore_n 3, 1) := by decide +kernel
theorem dX2_storyOf_4 : decode cX2_storyOf 4 = .ok (.iload_n 3, 1) := by decide +kernel
theorem dX2_storyOf_5 : decode cX2_storyOf 5 = .ok (.aload_n 0, 1) := by decide +kernel
theorem dX2_storyOf_6 : decode cX2_storyOf 6 = .ok (.getfield 188, 3) := by decide +kernel
theorem dX2_storyOf_9 : decode cX2_storyOf 9 = .ok (.if_icmp .ge 34, 3) := by decide +kernel
theorem dX2_storyOf_12 : decode cX2_storyOf 12 = .ok (.iload_n 2, 1) := by decide +kernel
theorem dX2_storyOf_13 : decode cX2_storyOf 13 = .ok (.aload_n 0, 1) := by decide +kernel
theorem dX2_storyOf_14 : decode cX2_storyOf 14 = .ok (.getfield 54, 3) := by decide +kernel
theorem dX2_storyOf_17 : decode cX2_storyOf 17 = .ok (.iload_n 3, 1) := by decide +kernel
theorem dX2_storyOf_18 : decode cX2_storyOf 18 = .ok (.iaload, 1) := by decide +kernel
theorem dX2_storyOf_19 : decode cX2_storyOf 19 = .ok (.aload_n 0, 1) := by decide +kernel
theorem dX2_storyOf_20 : decode cX2_storyOf 20 = .ok (.getfield 28, 3) := by decide +kernel
theorem dX2_storyOf_23 : decode cX2_storyOf 23 = .ok (.iload_n 1, 1) := by decide +kernel
theorem dX2_storyOf_24 : decode cX2_storyOf 24 = .ok (.aaload, 1) := by decide +kernel
theorem dX2_storyOf_25 : decode cX2_storyOf 25 = .ok (.aload_n 0, 1) := by decide +kernel
theorem dX2_storyOf_26 : decode cX2_storyOf 26 = .ok (.getfield 51, 3) := by decide +kernel
theorem dX2_storyOf_29 : decode cX2_storyOf 29 = .ok (.iload_n 3, 1) := by decide +kernel
theorem dX2_storyOf_30 : decode cX2_storyOf 30 = .ok (.aaload, 1) := by decide +kernel
theorem dX2_storyOf_31 : decode cX2_storyOf 31 = .ok (.invokevirtual 195, 3) := by decide +kernel
theorem dX2_storyOf_34 : decode cX2_storyOf 34 = .ok (.imul, 1) := by decide +kernel
theorem dX2_storyOf_35 : decode cX2_storyOf 35 = .ok (.iadd, 1) := by decide +kernel
theorem dX2_storyOf_36 : decode cX2_storyOf 36 = .ok (.istore_n 2, 1) := by decide +kernel
theorem dX2_storyOf_37 : decode cX2_storyOf 37 = .ok (.iinc 3 1, 3) := by decide +kernel
theorem dX2_storyOf_40 : decode cX2_storyOf 40 = .ok (.goto (-36), 3) := by decide +kernel
theorem dX2_storyOf_43 : decode cX2_storyOf 43 = .ok (.iload_n 2, 1) := by decide +kernel
theorem dX2_storyOf_44 : decode cX2_storyOf 44 = .ok (.ireturn, 1) := by decide +kernel
theorem dX2_rankOf_0 : decode cX2_rankOf 0 = .ok (.iconst 0, 1) := by decide +kernel
theorem dX2_rankOf_1 : decode cX2_rankOf 1 = .ok (.istore_n 2, 1) := by decide +kernel
theorem dX2_rankOf_2 : decode cX2_rankOf 2 = .ok (.iconst 0, 1) := by decide +kernel
theorem dX2_rankOf_3 : decode cX2_rankOf 3 = .ok (.istore_n 3, 1) := by decide +kernel
theorem dX2_rankOf_4 : decode cX2_rankOf 4 = .ok (.iload_n 3, 1) := by decide +kernel
theorem dX2_rankOf_5 : decode cX2_rankOf 5 = .ok (.bipush 7, 2) := by decide +kernel
theorem dX2_rankOf_7 : decode cX2_rankOf 7 = .ok (.if_icmp .ge 49, 3) := by decide +kernel
theorem dX2_rankOf_10 : decode cX2_rankOf 10 = .ok (.aload_n 0, 1) := by decide +kernel
theorem dX2_rankOf_11 : decode cX2_rankOf 11 = .ok (.getfield 57, 3) := by decide +kernel
theorem dX2_rankOf_14 : decode cX2_rankOf 14 = .ok (.iload_n 3, 1) := by decide +kernel
theorem dX2_rankOf_15 : decode cX2_rankOf 15 = .ok (.laload, 1) := by decide +kernel
theorem dX2_rankOf_16 : decode cX2_rankOf 16 = .ok (.aload_n 0, 1) := by decide +kernel
theorem dX2_rankOf_17 : decode cX2_rankOf 17 = .ok (.getfield 57, 3) := by decide +kernel
theorem dX2_rankOf_20 : decode cX2_rankOf 20 = .ok (.iload_n 1, 1) := by decide +kernel
theorem dX2_rankOf_21 : decode cX2_rankOf 21 = .ok (.laload, 1) := by decide +kernel
theorem dX2_rankOf_22 : decode cX2_rankOf 22 = .ok (.lcmp, 1) := by decide +kernel
theorem dX2_rankOf_23 : decode cX2_rankOf 23 = .ok (.ifCond .gt 24, 3) := by decide +kernel
theorem dX2_rankOf_26 : decode cX2_rankOf 26 = .ok (.aload_n 0, 1) := by decide +kernel
theorem dX2_rankOf_27 : decode cX2_rankOf 27 = .ok (.getfield 57, 3) := by decide +kernel
theorem dX2_rankOf_30 : decode cX2_rankOf 30 = .ok (.iload_n 3, 1) := by decide +kernel
theorem dX2_rankOf_31 : decode cX2_rankOf 31 = .ok (.laload, 1) := by decide +kernel
theorem dX2_rankOf_32 : decode cX2_rankOf 32 = .ok (.aload_n 0, 1) := by decide +kernel
theorem dX2_rankOf_33 : decode cX2_rankOf 33 = .ok (.getfield 57, 3) := by decide +kernel
theorem dX2_rankOf_36 : decode cX2_rankOf 36 = .ok (.iload_n 1, 1) := by decide +kernel
theorem dX2_rankOf_37 : decode cX2_rankOf 37 = .ok (.laload, 1) := by decide +kernel
theorem dX2_rankOf_38 : decode cX2_rankOf 38 = .ok (.lcmp, 1) := by decide +kernel
theorem dX2_rankOf_39 : decode cX2_rankOf 39 = .ok (.ifCond .ne 11, 3) := by decide +kernel
theorem dX2_rankOf_42 : decode cX2_rankOf 42 = .ok (.iload_n 3, 1) := by decide +kernel
theorem dX2_rankOf_43 : decode cX2_rankOf 43 = .ok (.iload_n 1, 1) := by decide +kernel
theorem dX2_rankOf_44 : decode cX2_rankOf 44 = .ok (.if_icmp .ge 6, 3) := by decide +kernel
theorem dX2_rankOf_47 : decode cX2_rankOf 47 = .ok (.iinc 2 1, 3) := by decide +kernel
theorem dX2_rankOf_50 : decode cX2_rankOf 50 = .ok (.iinc 3 1, 3) := by decide +kernel
theorem dX2_rankOf_53 : decode cX2_rankOf 53 = .ok (.goto (-49), 3) := by decide +kernel
theorem dX2_rankOf_56 : decode cX2_rankOf 56 = .ok (.iload_n 2, 1) := by decide +kernel
theorem dX2_rankOf_57 : decode cX2_rankOf 57 = .ok (.ireturn, 1) := by decide +kernel
end
section
theorem dX3_init_0 : decode cX3_init 0 = .ok (.aload_n 0, 1) := by decide +kernel
theorem dX3_init_1 : decode cX3_init 1 = .ok (.invokespecial 1, 3) := by decide +kernel
theorem dX3_init_4 : decode cX3_init 4 = .ok (.aload_n 0, 1) := by decide +kernel
theorem dX3_init_5 : decode cX3_init 5 = .ok (.bipush 56, 2) := by decide +kernel
theorem dX3_init_7 : decode cX3_init 7 = .ok (.newarray .int, 2) := by decide +kernel
theorem dX3_init_9 : decode cX3_init 9 = .ok (.putfield 7, 3) := by decide +kernel
theorem dX3_init_12 : decode cX3_init 12 = .ok (.aload_n 0, 1) := by decide +kernel
theorem dX3_init_13 : decode cX3_init 13 = .ok (.bipush 8, 2) := by decide +kernel
theorem dX3_init_15 : decode cX3_init 15 = .ok (.newarray .int, 2) := by decide +kernel
theorem dX3_init_17 : decode cX3_init 17 = .ok (.putfield 13, 3) := by decide +kernel
theorem dX3_init_20 : decode cX3_init 20 = .ok (.aload_n 0, 1) := by decide +kernel
theorem dX3_init_21 : decode cX3_init 21 = .ok (.bipush 8, 2) := by decide +kernel
theorem dX3_init_23 : decode cX3_init 23 = .ok (.newarray .int, 2) := by decide +kernel
theorem dX3_init_25 : decode cX3_init 25 = .ok (.putfield 16, 3) := by decide +kernel
theorem dX3_init_28 : decode cX3_init 28 = .ok (.aload_n 0, 1) := by decide +kernel
theorem dX3_init_29 : decode cX3_init 29 = .ok (.iconst 1, 1) := by decide +kernel
theorem dX3_init_30 : decode cX3_init 30 = .ok (.putfield 19, 3) := by decide +kernel
theorem dX3_init_33 : decode cX3_init 33 = .ok (.aload_n 0, 1) := by decide +kernel
theorem dX3_init_34 : decode cX3_init 34 = .ok (.iconst 1, 1) := by decide +kernel
theorem dX3_init_35 : decode cX3_init 35 = .ok (.putfield 23, 3) := by decide +kernel
theorem dX3_init_38 : decode cX3_init 38 = .ok (.aload_n 0, 1) := by decide +kernel
theorem dX3_init_39 : decode cX3_init 39 = .ok (.bipush 48, 2) := by decide +kernel
theorem dX3_init_41 : decode cX3_init 41 = .ok (.newarray .int, 2) := by decide +kernel
theorem dX3_init_43 : decode cX3_init 43 = .ok (.putfield 26, 3) := by decide +kernel
theorem dX3_init_46 : decode cX3_init 46 = .ok (.aload_n 0, 1) := by decide +kernel
theorem dX3_init_47 : decode cX3_init 47 = .ok (.bipush 12, 2) := by decide +kernel
theorem dX3_init_49 : decode cX3_init 49 = .ok (.newarray .int, 2) := by decide +kernel
theorem dX3_init_51 : decode cX3_init 51 = .ok (.putfield 29, 3) := by decide +kernel
theorem dX3_init_54 : decode cX3_init 54 = .ok (.aload_n 0, 1) := by decide +kernel
theorem dX3_init_55 : decode cX3_init 55 = .ok (.bipush 12, 2) := by decide +kernel
theorem dX3_init_57 : decode cX3_init 57 = .ok (.newarray .int, 2) := by decide +kernel
theorem dX3_init_59 : decode cX3_init 59 = .ok (.putfield 32, 3) := by decide +kernel
theorem dX3_init_62 : decode cX3_init 62 = .ok (.aload_n 0, 1) := by decide +kernel
theorem dX3_init_63 : decode cX3_init 63 = .ok (.sipush 576, 3) := by decide +kernel
theorem dX3_init_66 : decode cX3_init 66 = .ok (.newarray .int, 2) := by decide +kernel
theorem dX3_init_68 : decode cX3_init 68 = .ok (.putfield 35, 3) := by decide +kernel
theorem dX3_init_71 : decode cX3_init 71 = .ok (.aload_n 0, 1) := by decide +kernel
theorem dX3_init_72 : decode cX3_init 72 = .ok (.bipush 12, 2) := by decide +kernel
theorem dX3_init_74 : decode cX3_init 74 = .ok (.newarray .int, 2) := by decide +kernel
theorem dX3_init_76 : decode cX3_init 76 = .ok (.putfield 38, 3) := by decide +kernel
theorem dX3_init_79 : decode cX3_init 79 = .ok (.aload_n 0, 1) := by decide +kernel
theorem dX3_init_80 : decode cX3_init 80 = .ok (.bipush 12, 2) := by decide +kernel
theorem dX3_init_82 : decode cX3_init 82 = .ok (.newarray .int, 2) := by decide +kernel
theorem dX3_init_84 : decode cX3_init 84 = .ok (.putfield 41, 3) := by decide +kernel
theorem dX3_init_87 : decode cX3_init 87 = .ok (.aload_n 0, 1) := by decide +kernel
theorem dX3_init_88 : decode cX3_init 88 = .ok (.bipush 20, 2) := by decide +kernel
theorem dX3_init_90 : decode cX3_init 90 = .ok (.newarray .int, 2) := by decide +kernel
theorem dX3_init_92 : decode cX3_init 92 = .ok (.putfield 44, 3) := by decide +kernel
theorem dX3_init_95 : decode cX3_init 95 = .ok (.aload_n 0, 1) := by decide +kernel
theorem dX3_init_96 : decode cX3_init 96 = .ok (.bipush 20, 2) := by decide +kernel
theorem dX3_init_98 : decode cX3_init 98 = .ok (.newarray .int, 2) := by decide +kernel
theorem dX3_init_100 : decode cX3_init 100 = .ok (.putfield 47, 3) := by decide +kernel
theorem dX3_init_103 : decode cX3_init 103 = .ok (.aload_n 0, 1) := by decide +kernel
theorem dX3_init_104 : decode cX3_init 104 = .ok (.bipush 7, 2) := by decide +kernel
theorem dX3_init_106 : decode cX3_init 106 = .ok (.newarray .int, 2) := by decide +kernel
theorem dX3_init_108 : decode cX3_init 108 = .ok (.putfield 50, 3) := by decide +kernel
theorem dX3_init_111 : decode cX3_init 111 = .ok (.aload_n 0, 1) := by decide +kernel
theorem dX3_init_112 : decode cX3_init 112 = .ok (.bipush 7, 2) := by decide +kernel
theorem dX3_init_114 : decode cX3_init 114 = .ok (.newarray .int, 2) := by decide +kernel
theorem dX3_init_116 : decode cX3_init 116 = .ok (.putfield 53, 3) := by decide +kernel
theorem dX3_init_119 : decode cX3_init 119 = .ok (.aload_n 0, 1) := by decide +kernel
theorem dX3_init_120 : decode cX3_init 120 = .ok (.bipush 7, 2) := by decide +kernel
theorem dX3_init_122 : decode cX3_init 122 = .ok (.newarray .int, 2) := by decide +kernel
theorem dX3_init_124 : decode cX3_init 124 = .ok (.putfield 56, 3) := by decide +kernel
theorem dX3_init_127 : decode cX3_init 127 = .ok (.aload_n 0, 1) := by decide +kernel
theorem dX3_init_128 : decode cX3_init 128 = .ok (.bipush 7, 2) := by decide +kernel
theorem dX3_init_130 : decode cX3_init 130 = .ok (.newarray .int, 2) := by decide +kernel
theorem dX3_init_132 : decode cX3_init 132 = .ok (.putfield 59, 3) := by decide +kernel
theorem dX3_init_135 : decode cX3_init 135 = .ok (.aload_n 0, 1) := by decide +kernel
theorem dX3_init_136 : decode cX3_init 136 = .ok (.bipush 7, 2) := by decide +kernel
theorem dX3_init_138 : decode cX3_init 138 = .ok (.newarray .int, 2) := by decide +kernel
theorem dX3_init_140 : decode cX3_init 140 = .ok (.putfield 62, 3) := by decide +kernel
theorem dX3_init_143 : decode cX3_init 143 = .ok (.aload_n 0, 1) := by decide +kernel
theorem dX3_init_144 : decode cX3_init 144 = .ok (.bipush 8, 2) := by decide +kernel
theorem dX3_init_146 : decode cX3_init 146 = .ok (.newarray .int, 2) := by decide +kernel
theorem dX3_init_148 : decode cX3_init 148 = .ok (.putfield 65, 3) := by decide +kernel
theorem dX3_init_151 : decode cX3_init 151 = .ok (.aload_n 0, 1) := by decide +kernel
theorem dX3_init_152 : decode cX3_init 152 = .ok (.bipush 8, 2) := by decide +kernel
theorem dX3_init_154 : decode cX3_init 154 = .ok (.newarray .int, 2) := by decide +kernel
theorem dX3_init_156 : decode cX3_init 156 = .ok (.putfield 68, 3) := by decide +kernel
theorem dX3_init_159 : decode cX3_init 159 = .ok (.aload_n 0, 1) := by decide +kernel
theorem dX3_init_160 : decode cX3_init 160 = .ok (.bipush 72, 2) := by decide +kernel
theorem dX3_init_162 : decode cX3_init 162 = .ok (.newarray .int, 2) := by decide +kernel
theorem dX3_init_164 : decode cX3_init 164 = .ok (.putfield 71, 3) := by decide +kernel
theorem dX3_init_167 : decode cX3_init 167 = .ok (.aload_n 0, 1) := by decide +kernel
theorem dX3_init_168 : decode cX3_init 168 = .ok (.bipush 8, 2) := by decide +kernel
theorem dX3_init_170 : decode cX3_init 170 = .ok (.newarray .int, 2) := by decide +kernel
theorem dX3_init_172 : decode cX3_init 172 = .ok (.putfield 74, 3) := by decide +kernel
theorem dX3_init_175 : decode cX3_init 175 = .ok (.aload_n 0, 1) := by decide +kernel
theorem dX3_init_176 : decode cX3_init 176 = .ok (.bipush 7, 2) := by decide +kernel
theorem dX3_init_178 : decode cX3_init 178 = .ok (.newarray .long, 2) := by decide +kernel
theorem dX3_init_180 : decode cX3_init 180 = .ok (.putfield 77, 3) := by decide +kernel
theorem dX3_init_183 : decode cX3_init 183 = .ok (.iconst 0, 1) := by decide +kernel
theorem dX3_init_184 : decode cX3_init 184 = .ok (.istore_n 1, 1) := by decide +kernel
theorem dX3_init_185 : decode cX3_init 185 = .ok (.iload_n 1, 1) := by decide +kernel
theorem dX3_init_186 : decode cX3_init 186 = .ok (.bipush 20, 2) := by decide +kernel
theorem dX3_init_188 : decode cX3_init 188 = .ok (.if_icmp .ge 16, 3) := by decide +kernel
theorem dX3_init_191 : decode cX3_init 191 = .ok (.aload_n 0, 1) := by decide +kernel
theorem dX3_init_192 : decode cX3_init 192 = .ok (.getfield 44, 3) := by decide +kernel
theorem dX3_init_195 : decode cX3_init 195 = .ok (.iload_n 1, 1) := by decide +kernel
theorem dX3_init_196 : decode cX3_init 196 = .ok (.iconst (-1), 1) := by decide +kernel
theorem dX3_init_197 : decode cX3_init 197 = .ok (.iastore, 1) := by decide +kernel
theorem dX3_init_198 : decode cX3_init 198 = .ok (.iinc 1 1, 3) := by decide +kernel
theorem dX3_init_201 : decode cX3_init 201 = .ok (.goto (-16), 3) := by decide +kernel
theorem dX3_init_204 : decode cX3_init 204 = .ok (.iconst 0, 1) := by decide +kernel
theorem dX3_init_205 : decode cX3_init 205 = .ok (.istore_n 1, 1) := by decide +kernel
theorem dX3_init_206 : decode cX3_init 206 = .ok (.iload_n 1, 1) := by decide +kernel
theorem dX3_init_207 : decode cX3_init 207 = .ok (.bipush 7, 2) := by decide +kernel
theorem dX3_init_209 : decode cX3_init 209 = .ok (.if_icmp .ge 16, 3) := by decide +kernel
theorem dX3_init_212 : decode cX3_init 212 = .ok (.aload_n 0, 1) := by decide +kernel
theorem dX3_init_213 : decode cX3_init 213 = .ok (.getfield 53, 3) := by decide +kernel
theorem dX3_init_216 : decode cX3_init 216 = .ok (.iload_n 1, 1) := by decide +kernel
theorem dX3_init_217 : decode cX3_init 217 = .ok (.iconst (-1), 1) := by decide +kernel
theorem dX3_init_218 : decode cX3_init 218 = .ok (.iastore, 1) := by decide +kernel
theorem dX3_init_219 : decode cX3_init 219 = .ok (.iinc 1 1, 3) := by decide +kernel
theorem dX3_init_222 : decode cX3_init 222 = .ok (.goto (-16), 3) := by decide +kernel
theorem dX3_init_225 : decode cX3_init 225 = .ok (.return_, 1) := by decide +kernel
theorem dX3_thrown_0 : decode cX3_thrown 0 = .ok (.aload_n 0, 1) := by decide +kernel
theorem dX3_thrown_1 : decode cX3_thrown 1 = .ok (.getfield 81, 3) := by decide +kernel
theorem dX3_thrown_4 : decode cX3_thrown 4 = .ok (.ireturn, 1) := by decide +kernel
theorem dX3_isIn_0 : decode cX3_isIn 0 = .ok (.iload_n 0, 1) := by decide +kernel
theorem dX3_isIn_1 : decode cX3_isIn 1 = .ok (.iload_n 1, 1) := by decide +kernel
theorem dX3_isIn_2 : decode cX3_isIn 2 = .ok (.if_icmp .lt 12, 3) := by decide +kernel
theorem dX3_isIn_5 : decode cX3_isIn 5 = .ok (.iload_n 0, 1) := by decide +kernel
theorem dX3_isIn_6 : decode cX3_isIn 6 = .ok (.iload_n 2, 1) := by decide +kernel
theorem dX3_isIn_7 : decode cX3_isIn 7 = .ok (.if_icmp .gt 7, 3) := by decide +kernel
theorem dX3_isIn_10 : decode cX3_isIn 10 = .ok (.iconst 1, 1) := by decide +kernel
theorem dX3_isIn_11 : decode cX3_isIn 11 = .ok (.goto 4, 3) := by decide +kernel
theorem dX3_isIn_14 : decode cX3_isIn 14 = .ok (.iconst 0, 1) := by decide +kernel
theorem dX3_isIn_15 : decode cX3_isIn 15 = .ok (.ireturn, 1) := by decide +kernel
set_option maxRecDepth 20000 in
theorem ggX3_isPerson_X3_isIn : GoodIn wsX3_isPerson wsX3_isIn := goodIn_r _ [4] (by decide +kernel) (by decide +kernel)
set_option maxRecDepth 20000 in
theorem gX3_isPerson_X3_isIn : GoodIn wsX3_isPerson (va_wsS RX3 84 yX3_isIn wsX3_isIn) := goodIn_app (goodIn_of _ (by decide +kernel)) ggX3_isPerson_X3_isIn
theorem dX3_isPerson_0 : decode cX3_isPerson 0 = .ok (.iload_n 0, 1) := by decide +kernel
theorem dX3_isPerson_1 : decode cX3_isPerson 1 = .ok (.iconst 0, 1) := by decide +kernel
theorem dX3_isPerson_2 : decode cX3_isPerson 2 = .ok (.bipush 6, 2) := by decide +kernel
theorem dX3_isPerson_4 : decode cX3_isPerson 4 = .ok (.invokestatic 84, 3) := by decide +kernel
theorem dX3_isPerson_7 : decode cX3_isPerson 7 = .ok (.ireturn, 1) := by decide +kernel
set_option maxRecDepth 20000 in
theorem ggX3_isColour_X3_isIn : GoodIn wsX3_isColour wsX3_isIn := goodIn_r _ [4] (by decide +kernel) (by decide +kernel)
set_option maxRecDepth 20000 in
theorem gX3_isColour_X3_isIn : GoodIn wsX3_isColour (va_wsS RX3 84 yX3_isIn wsX3_isIn) := goodIn_app (goodIn_of _ (by decide +kernel)) ggX3_isColour_X3_isIn
theorem dX3_isColour_0 : decode cX3_isColour 0 = .ok (.iload_n 0, 1) := by decide +kernel
theorem dX3_isColour_1 : decode cX3_isColour 1 = .ok (.iconst 0, 1) := by decide +kernel
theorem dX3_isColour_2 : decode cX3_isColour 2 = .ok (.bipush 7, 2) := by decide +kernel
theorem dX3_isColour_4 : decode cX3_isColour 4 = .ok (.invokestatic 84, 3) := by decide +kernel
theorem dX3_isColour_7 : decode cX3_isColour 7 = .ok (.ireturn, 1) := by decide +kernel
set_option maxRecDepth 20000 in
theorem ggX3_isPattern_X3_isIn : GoodIn wsX3_isPattern wsX3_isIn := goodIn_r _ [5] (by decide +kernel) (by decide +kernel)
set_option maxRecDepth 20000 in
theorem gX3_isPattern_X3_isIn : GoodIn wsX3_isPattern (va_wsS RX3 84 yX3_isIn wsX3_isIn) := goodIn_app (goodIn_of _ (by decide +kernel)) ggX3_isPattern_X3_isIn
theorem dX3_isPattern_0 : decode cX3_isPattern 0 = .ok (.iload_n 1, 1) := by decide +kernel
theorem dX3_isPattern_1 : decode cX3_isPattern 1 = .ok (.iconst 0, 1) := by decide +kernel
theorem dX3_isPattern_2 : decode cX3_isPattern 2 = .ok (.aload_n 0, 1) := by decide +kernel
theorem dX3_isPattern_3 : decode cX3_isPattern 3 = .ok (.getfield 88, 3) := by decide +kernel
theorem dX3_isPattern_6 : decode cX3_isPattern 6 = .ok (.iconst 1, 1) := by decide +kernel
theorem dX3_isPattern_7 : decode cX3_isPattern 7 = .ok (.isub, 1) := by decide +kernel
theorem dX3_isPattern_8 : decode cX3_isPattern 8 = .ok (.invokestatic 84, 3) := by decide +kernel
theorem dX3_isPattern_11 : decode cX3_isPattern 11 = .ok (.ireturn, 1) := by decide +kernel
set_option maxRecDepth 20000 in
theorem ggX3_isBelt_X3_isIn : GoodIn wsX3_isBelt wsX3_isIn := goodIn_r _ [5] (by decide +kernel) (by decide +kernel)
set_option maxRecDepth 20000 in
theorem gX3_isBelt_X3_isIn : GoodIn wsX3_isBelt (va_wsS RX3 84 yX3_isIn wsX3_isIn) := goodIn_app (goodIn_of _ (by decide +kernel)) ggX3_isBelt_X3_isIn
theorem dX3_isBelt_0 : decode cX3_isBelt 0 = .ok (.iload_n 1, 1) := by decide +kernel
theorem dX3_isBelt_1 : decode cX3_isBelt 1 = .ok (.iconst 0, 1) := by decide +kernel
theorem dX3_isBelt_2 : decode cX3_isBelt 2 = .ok (.bipush 19, 2) := by decide +kernel
theorem dX3_isBelt_4 : decode cX3_isBelt 4 = .ok (.invokestatic 84, 3) := by decide +kernel
theorem dX3_isBelt_7 : decode cX3_isBelt 7 = .ok (.ifCond .eq 17, 3) := by decide +kernel
theorem dX3_isBelt_10 : decode cX3_isBelt 10 = .ok (.aload_n 0, 1) := by decide +kernel
theorem dX3_isBelt_11 : decode cX3_isBelt 11 = .ok (.getfield 44, 3) := by decide +kernel
theorem dX3_isBelt_14 : decode cX3_isBelt 14 = .ok (.iload_n 1, 1) := by decide +kernel
theorem dX3_isBelt_15 : decode cX3_isBelt 15 = .ok (.iaload, 1) := by decide +kernel
theorem dX3_isBelt_16 : decode cX3_isBelt 16 = .ok (.iconst (-1), 1) := by decide +kernel
theorem dX3_isBelt_17 : decode cX3_isBelt 17 = .ok (.if_icmp .eq 7, 3) := by decide +kernel
theorem dX3_isBelt_20 : decode cX3_isBelt 20 = .ok (.iconst 1, 1) := by decide +kernel
theorem dX3_isBelt_21 : decode cX3_isBelt 21 = .ok (.goto 4, 3) := by decide +kernel
theorem dX3_isBelt_24 : decode cX3_isBelt 24 = .ok (.iconst 0, 1) := by decide +kernel
theorem dX3_isBelt_25 : decode cX3_isBelt 25 = .ok (.ireturn, 1) := by decide +kernel
set_option maxRecDepth 20000 in
theorem ggX3_bring_X3_isPerson : GoodIn wsX3_bring wsX3_isPerson := goodIn_r _ [8, 9, 10, 7, 11] (by decide +kernel) (by decide +kernel)
set_option maxRecDepth 20000 in
theorem gX3_bring_X3_isPerson : GoodIn wsX3_bring (va_wsS RX3 91 yX3_isPerson wsX3_isPerson) := goodIn_app (goodIn_of _ (by decide +kernel)) ggX3_bring_X3_isPerson
set_option maxRecDepth 20000 in
theorem ggX3_bring_X3_isColour : GoodIn wsX3_bring wsX3_isColour := goodIn_r _ [14, 9, 10, 7, 11] (by decide +kernel) (by decide +kernel)
set_option maxRecDepth 20000 in
theorem gX3_bring_X3_isColour : GoodIn wsX3_bring (va_wsS RX3 95 yX3_isColour wsX3_isColour) := goodIn_app (goodIn_of _ (by decide +kernel)) ggX3_bring_X3_isColour
set_option maxRecDepth 20000 in
theorem ggX3_bring_X3_isIn : GoodIn wsX3_bring wsX3_isIn := goodIn_r _ [11] (by decide +kernel) (by decide +kernel)
set_option maxRecDepth 20000 in
theorem gX3_bring_X3_isIn : GoodIn wsX3_bring (va_wsS RX3 84 yX3_isIn wsX3_isIn) := goodIn_app (goodIn_of _ (by decide +kernel)) ggX3_bring_X3_isIn
theorem dX3_bring_0 : decode cX3_bring 0 = .ok (.iload_n 1, 1) := by decide +kernel
theorem dX3_bring_1 : decode cX3_bring 1 = .ok (.invokestatic 91, 3) := by decide +kernel
theorem dX3_bring_4 : decode cX3_bring 4 = .ok (.ifCond .eq 14, 3) := by decide +kernel
theorem dX3_bring_7 : decode cX3_bring 7 = .ok (.iload_n 2, 1) := by decide +kernel
theorem dX3_bring_8 : decode cX3_bring 8 = .ok (.invokestatic 95, 3) := by decide +kernel
theorem dX3_bring_11 : decode cX3_bring 11 = .ok (.ifCond .eq 7, 3) := by decide +kernel
theorem dX3_bring_14 : decode cX3_bring 14 = .ok (.iconst 1, 1) := by decide +kernel
theorem dX3_bring_15 : decode cX3_bring 15 = .ok (.goto 4, 3) := by decide +kernel
theorem dX3_bring_18 : decode cX3_bring 18 = .ok (.iconst 0, 1) := by decide +kernel
theorem dX3_bring_19 : decode cX3_bring 19 = .ok (.istore 4, 2) := by decide +kernel
theorem dX3_bring_21 : decode cX3_bring 21 = .ok (.aload_n 0, 1) := by decide +kernel
theorem dX3_bring_22 : decode cX3_bring 22 = .ok (.iload 4, 2) := by decide +kernel
theorem dX3_bring_24 : decode cX3_bring 24 = .ok (.ifCond .ne 7, 3) := by decide +kernel
theorem dX3_bring_27 : decode cX3_bring 27 = .ok (.iconst 1, 1) := by decide +kernel
theorem dX3_bring_28 : decode cX3_bring 28 = .ok (.goto 41, 3) := by decide +kernel
theorem dX3_bring_31 : decode cX3_bring 31 = .ok (.iload_n 3, 1) := by decide +kernel
theorem dX3_bring_32 : decode cX3_bring 32 = .ok (.iconst 1, 1) := by decide +kernel
theorem dX3_bring_33 : decode cX3_bring 33 = .ok (.sipush 1000, 3) := by decide +kernel
theorem dX3_bring_36 : decode cX3_bring 36 = .ok (.invokestatic 84, 3) := by decide +kernel
theorem dX3_bring_39 : decode cX3_bring 39 = .ok (.ifCond .ne 7, 3) := by decide +kernel
theorem dX3_bring_42 : decode cX3_bring 42 = .ok (.iconst 2, 1) := by decide +kernel
theorem dX3_bring_43 : decode cX3_bring 43 = .ok (.goto 26, 3) := by decide +kernel
theorem dX3_bring_46 : decode cX3_bring 46 = .ok (.aload_n 0, 1) := by decide +kernel
theorem dX3_bring_47 : decode cX3_bring 47 = .ok (.getfield 7, 3) := by decide +kernel
theorem dX3_bring_50 : decode cX3_bring 50 = .ok (.bipush 8, 2) := by decide +kernel
theorem dX3_bring_52 : decode cX3_bring 52 = .ok (.iload_n 1, 1) := by decide +kernel
theorem dX3_bring_53 : decode cX3_bring 53 = .ok (.imul, 1) := by decide +kernel
theorem dX3_bring_54 : decode cX3_bring 54 = .ok (.iload_n 2, 1) := by decide +kernel
theorem dX3_bring_55 : decode cX3_bring 55 = .ok (.iadd, 1) := by decide +kernel
theorem dX3_bring_56 : decode cX3_bring 56 = .ok (.iaload, 1) := by decide +kernel
theorem dX3_bring_57 : decode cX3_bring 57 = .ok (.iload_n 3, 1) := by decide +kernel
theorem dX3_bring_58 : decode cX3_bring 58 = .ok (.iadd, 1) := by decide +kernel
theorem dX3_bring_59 : decode cX3_bring 59 = .ok (.ldc 98, 2) := by decide +kernel
theorem dX3_bring_61 : decode cX3_bring 61 = .ok (.if_icmp .le 7, 3) := by decide +kernel
theorem dX3_bring_64 : decode cX3_bring 64 = .ok (.iconst 3, 1) := by decide +kernel
theorem dX3_bring_65 : decode cX3_bring 65 = .ok (.goto 4, 3) := by decide +kernel
theorem dX3_bring_68 : decode cX3_bring 68 = .ok (.iconst 0, 1) := by decide +kernel
theorem dX3_bring_69 : decode cX3_bring 69 = .ok (.putfield 81, 3) := by decide +kernel
theorem dX3_bring_72 : decode cX3_bring 72 = .ok (.aload_n 0, 1) := by decide +kernel
theorem dX3_bring_73 : decode cX3_bring 73 = .ok (.getfield 81, 3) := by decide +kernel
theorem dX3_bring_76 : decode cX3_bring 76 = .ok (.ifCond .le 5, 3) := by decide +kernel
theorem dX3_bring_79 : decode cX3_bring 79 = .ok (.iconst 0, 1) := by decide +kernel
theorem dX3_bring_80 : decode cX3_bring 80 = .ok (.ireturn, 1) := by decide +kernel
theorem dX3_bring_81 : decode cX3_bring 81 = .ok (.aload_n 0, 1) := by decide +kernel
theorem dX3_bring_82 : decode cX3_bring 82 = .ok (.getfield 7, 3) := by decide +kernel
theorem dX3_bring_85 : decode cX3_bring 85 = .ok (.bipush 8, 2) := by decide +kernel
theorem dX3_bring_87 : decode cX3_bring 87 = .ok (.iload_n 1, 1) := by decide +kernel
theorem dX3_bring_88 : decode cX3_bring 88 = .ok (.imul, 1) := by decide +kernel
theorem dX3_bring_89 : decode cX3_bring 89 = .ok (.iload_n 2, 1) := by decide +kernel
theorem dX3_bring_90 : decode cX3_bring 90 = .ok (.iadd, 1) := by decide +kernel
theorem dX3_bring_91 : decode cX3_bring 91 = .ok (.dup2, 1) := by decide +kernel
theorem dX3_bring_92 : decode cX3_bring 92 = .ok (.iaload, 1) := by decide +kernel
theorem dX3_bring_93 : decode cX3_bring 93 = .ok (.iload_n 3, 1) := by decide +kernel
theorem dX3_bring_94 : decode cX3_bring 94 = .ok (.iadd, 1) := by decide +kernel
theorem dX3_bring_95 : decode cX3_bring 95 = .ok (.iastore, 1) := by decide +kernel
theorem dX3_bring_96 : decode cX3_bring 96 = .ok (.aload_n 0, 1) := by decide +kernel
theorem dX3_bring_97 : decode cX3_bring 97 = .ok (.getfield 16, 3) := by decide +kernel
theorem dX3_bring_100 : decode cX3_bring 100 = .ok (.iload_n 2, 1) := by decide +kernel
theorem dX3_bring_101 : decode cX3_bring 101 = .ok (.dup2, 1) := by decide +kernel
theorem dX3_bring_102 : decode cX3_bring 102 = .ok (.iaload, 1) := by decide +kernel
theorem dX3_bring_103 : decode cX3_bring 103 = .ok (.iload_n 3, 1) := by decide +kernel
theorem dX3_bring_104 : decode cX3_bring 104 = .ok (.iadd, 1) := by decide +kernel
theorem dX3_bring_105 : decode cX3_bring 105 = .ok (.iastore, 1) := by decide +kernel
theorem dX3_bring_106 : decode cX3_bring 106 = .ok (.aload_n 0, 1) := by decide +kernel
theorem dX3_bring_107 : decode cX3_bring 107 = .ok (.getfield 7, 3) := by decide +kernel
theorem dX3_bring_110 : decode cX3_bring 110 = .ok (.bipush 8, 2) := by decide +kernel
theorem dX3_bring_112 : decode cX3_bring 112 = .ok (.iload_n 1, 1) := by decide +kernel
theorem dX3_bring_113 : decode cX3_bring 113 = .ok (.imul, 1) := by decide +kernel
theorem dX3_bring_114 : decode cX3_bring 114 = .ok (.iload_n 2, 1) := by decide +kernel
theorem dX3_bring_115 : decode cX3_bring 115 = .ok (.iadd, 1) := by decide +kernel
theorem dX3_bring_116 : decode cX3_bring 116 = .ok (.iaload, 1) := by decide +kernel
theorem dX3_bring_117 : decode cX3_bring 117 = .ok (.ireturn, 1) := by decide +kernel
set_option maxRecDepth 20000 in
theorem ggX3_lay_X3_isPerson : GoodIn wsX3_lay wsX3_isPerson := goodIn_r _ [8, 9, 10, 7, 11] (by decide +kernel) (by decide +kernel)
set_option maxRecDepth 20000 in
theorem gX3_lay_X3_isPerson : GoodIn wsX3_lay (va_wsS RX3 91 yX3_isPerson wsX3_isPerson) := goodIn_app (goodIn_of _ (by decide +kernel)) ggX3_lay_X3_isPerson
set_option maxRecDepth 20000 in
theorem ggX3_lay_X3_isColour : GoodIn wsX3_lay wsX3_isColour := goodIn_r _ [14, 9, 10, 7, 11] (by decide +kernel) (by decide +kernel)
set_option maxRecDepth 20000 in
theorem gX3_lay_X3_isColour : GoodIn wsX3_lay (va_wsS RX3 95 yX3_isColour wsX3_isColour) := goodIn_app (goodIn_of _ (by decide +kernel)) ggX3_lay_X3_isColour
set_option maxRecDepth 20000 in
theorem ggX3_lay_X3_isIn : GoodIn wsX3_lay wsX3_isIn := goodIn_r _ [11] (by decide +kernel) (by decide +kernel)
set_option maxRecDepth 20000 in
theorem gX3_lay_X3_isIn : GoodIn wsX3_lay (va_wsS RX3 84 yX3_isIn wsX3_isIn) := goodIn_app (goodIn_of _ (by decide +kernel)) ggX3_lay_X3_isIn
theorem dX3_lay_0 : decode cX3_lay 0 = .ok (.aload_n 0, 1) := by decide +kernel
theorem dX3_lay_1 : decode cX3_lay 1 = .ok (.iload_n 1, 1) := by decide +kernel
theorem dX3_lay_2 : decode cX3_lay 2 = .ok (.invokestatic 91, 3) := by decide +kernel
theorem dX3_lay_5 : decode cX3_lay 5 = .ok (.ifCond .eq 10, 3) := by decide +kernel
theorem dX3_lay_8 : decode cX3_lay 8 = .ok (.iload_n 2, 1) := by decide +kernel
theorem dX3_lay_9 : decode cX3_lay 9 = .ok (.invokestatic 95, 3) := by decide +kernel
theorem dX3_lay_12 : decode cX3_lay 12 = .ok (.ifCond .ne 7, 3) := by decide +kernel
theorem dX3_lay_15 : decode cX3_lay 15 = .ok (.iconst 1, 1) := by decide +kernel
theorem dX3_lay_16 : decode cX3_lay 16 = .ok (.goto 21, 3) := by decide +kernel
theorem dX3_lay_19 : decode cX3_lay 19 = .ok (.iload_n 3, 1) := by decide +kernel
theorem dX3_lay_20 : decode cX3_lay 20 = .ok (.sipush (-1000), 3) := by decide +kernel
theorem dX3_lay_23 : decode cX3_lay 23 = .ok (.sipush 1000, 3) := by decide +kernel
theorem dX3_lay_26 : decode cX3_lay 26 = .ok (.invokestatic 84, 3) := by decide +kernel
theorem dX3_lay_29 : decode cX3_lay 29 = .ok (.ifCond .eq 7, 3) := by decide +kernel
theorem dX3_lay_32 : decode cX3_lay 32 = .ok (.iconst 0, 1) := by decide +kernel
theorem dX3_lay_33 : decode cX3_lay 33 = .ok (.goto 4, 3) := by decide +kernel
theorem dX3_lay_36 : decode cX3_lay 36 = .ok (.iconst 2, 1) := by decide +kernel
theorem dX3_lay_37 : decode cX3_lay 37 = .ok (.putfield 81, 3) := by decide +kernel
theorem dX3_lay_40 : decode cX3_lay 40 = .ok (.aload_n 0, 1) := by decide +kernel
theorem dX3_lay_41 : decode cX3_lay 41 = .ok (.getfield 81, 3) := by decide +kernel
theorem dX3_lay_44 : decode cX3_lay 44 = .ok (.ifCond .le 5, 3) := by decide +kernel
theorem dX3_lay_47 : decode cX3_lay 47 = .ok (.iconst 0, 1) := by decide +kernel
theorem dX3_lay_48 : decode cX3_lay 48 = .ok (.ireturn, 1) := by decide +kernel
theorem dX3_lay_49 : decode cX3_lay 49 = .ok (.aload_n 0, 1) := by decide +kernel
theorem dX3_lay_50 : decode cX3_lay 50 = .ok (.getfield 7, 3) := by decide +kernel
theorem dX3_lay_53 : decode cX3_lay 53 = .ok (.bipush 8, 2) := by decide +kernel
theorem dX3_lay_55 : decode cX3_lay 55 = .ok (.iload_n 1, 1) := by decide +kernel
theorem dX3_lay_56 : decode cX3_lay 56 = .ok (.imul, 1) := by decide +kernel
theorem dX3_lay_57 : decode cX3_lay 57 = .ok (.iload_n 2, 1) := by decide +kernel
theorem dX3_lay_58 : decode cX3_lay 58 = .ok (.iadd, 1) := by decide +kernel
theorem dX3_lay_59 : decode cX3_lay 59 = .ok (.iaload, 1) := by decide +kernel
theorem dX3_lay_60 : decode cX3_lay 60 = .ok (.iload_n 3, 1) := by decide +kernel
theorem dX3_lay_61 : decode cX3_lay 61 = .ok (.isub, 1) := by decide +kernel
theorem dX3_lay_62 : decode cX3_lay 62 = .ok (.istore 4, 2) := by decide +kernel
theorem dX3_lay_64 : decode cX3_lay 64 = .ok (.aload_n 0, 1) := by decide +kernel
theorem dX3_lay_65 : decode cX3_lay 65 = .ok (.iload 4, 2) := by decide +kernel
theorem dX3_lay_67 : decode cX3_lay 67 = .ok (.ifCond .lt 21, 3) := by decide +kernel
theorem dX3_lay_70 : decode cX3_lay 70 = .ok (.iload 4, 2) := by decide +kernel
theorem dX3_lay_72 : decode cX3_lay 72 = .ok (.ldc 98, 2) := by decide +kernel
theorem dX3_lay_74 : decode cX3_lay 74 = .ok (.if_icmp .gt 14, 3) := by decide +kernel
theorem dX3_lay_77 : decode cX3_lay 77 = .ok (.aload_n 0, 1) := by decide +kernel
theorem dX3_lay_78 : decode cX3_lay 78 = .ok (.getfield 13, 3) := by decide +kernel
theorem dX3_lay_81 : decode cX3_lay 81 = .ok (.iload_n 2, 1) := by decide +kernel
theorem dX3_lay_82 : decode cX3_lay 82 = .ok (.iaload, 1) := by decide +kernel
theorem dX3_lay_83 : decode cX3_lay 83 = .ok (.iload_n 3, 1) := by decide +kernel
theorem dX3_lay_84 : decode cX3_lay 84 = .ok (.iadd, 1) := by decide +kernel
theorem dX3_lay_85 : decode cX3_lay 85 = .ok (.ifCond .ge 7, 3) := by decide +kernel
theorem dX3_lay_88 : decode cX3_lay 88 = .ok (.iconst 3, 1) := by decide +kernel
theorem dX3_lay_89 : decode cX3_lay 89 = .ok (.goto 4, 3) := by decide +kernel
theorem dX3_lay_92 : decode cX3_lay 92 = .ok (.iconst 0, 1) := by decide +kernel
theorem dX3_lay_93 : decode cX3_lay 93 = .ok (.putfield 81, 3) := by decide +kernel
theorem dX3_lay_96 : decode cX3_lay 96 = .ok (.aload_n 0, 1) := by decide +kernel
theorem dX3_lay_97 : decode cX3_lay 97 = .ok (.getfield 81, 3) := by decide +kernel
theorem dX3_lay_100 : decode cX3_lay 100 = .ok (.ifCond .le 5, 3) := by decide +kernel
theorem dX3_lay_103 : decode cX3_lay 103 = .ok (.iconst 0, 1) := by decide +kernel
theorem dX3_lay_104 : decode cX3_lay 104 = .ok (.ireturn, 1) := by decide +kernel
theorem dX3_lay_105 : decode cX3_lay 105 = .ok (.aload_n 0, 1) := by decide +kernel
theorem dX3_lay_106 : decode cX3_lay 106 = .ok (.getfield 7, 3) := by decide +kernel
theorem dX3_lay_109 : decode cX3_lay 109 = .ok (.bipush 8, 2) := by decide +kernel
theorem dX3_lay_111 : decode cX3_lay 111 = .ok (.iload_n 1, 1) := by decide +kernel
theorem dX3_lay_112 : decode cX3_lay 112 = .ok (.imul, 1) := by decide +kernel
theorem dX3_lay_113 : decode cX3_lay 113 = .ok (.iload_n 2, 1) := by decide +kernel
theorem dX3_lay_114 : decode cX3_lay 114 = .ok (.iadd, 1) := by decide +kernel
theorem dX3_lay_115 : decode cX3_lay 115 = .ok (.iload 4, 2) := by decide +kernel
theorem dX3_lay_117 : decode cX3_lay 117 = .ok (.iastore, 1) := by decide +kernel
theorem dX3_lay_118 : decode cX3_lay 118 = .ok (.aload_n 0, 1) := by decide +kernel
theorem dX3_lay_119 : decode cX3_lay 119 = .ok (.getfield 13, 3) := by decide +kernel
theorem dX3_lay_122 : decode cX3_lay 122 = .ok (.iload_n 2, 1) := by decide +kernel
theorem dX3_lay_123 : decode cX3_lay 123 = .ok (.dup2, 1) := by decide +kernel
theorem dX3_lay_124 : decode cX3_lay 124 = .ok (.iaload, 1) := by decide +kernel
theorem dX3_lay_125 : decode cX3_lay 125 = .ok (.iload_n 3, 1) := by decide +kernel
theorem dX3_lay_126 : decode cX3_lay 126 = .ok (.iadd, 1) := by decide +kernel
theorem dX3_lay_127 : decode cX3_lay 127 = .ok (.iastore, 1) := by decide +kernel
theorem dX3_lay_128 : decode cX3_lay 128 = .ok (.aload_n 0, 1) := by decide +kernel
theorem dX3_lay_129 : decode cX3_lay 129 = .ok (.getfield 13, 3) := by decide +kernel
theorem dX3_lay_132 : decode cX3_lay 132 = .ok (.iload_n 2, 1) := by decide +kernel
theorem dX3_lay_133 : decode cX3_lay 133 = .ok (.iaload, 1) := by decide +kernel
theorem dX3_lay_134 : decode cX3_lay 134 = .ok (.ireturn, 1) := by decide +kernel
set_option maxRecDepth 20000 in
theorem ggX3_hand_X3_isPerson : GoodIn wsX3_hand wsX3_isPerson := goodIn_r _ [6, 7, 8, 5, 9] (by decide +kernel) (by decide +kernel)
set_option maxRecDepth 20000 in
theorem gX3_hand_X3_isPerson : GoodIn wsX3_hand (va_wsS RX3 91 yX3_isPerson wsX3_isPerson) := goodIn_app (goodIn_of _ (by decide +kernel)) ggX3_hand_X3_isPerson
set_option maxRecDepth 20000 in
theorem ggX3_hand_X3_isColour : GoodIn wsX3_hand wsX3_isColour := goodIn_r _ [12, 7, 8, 5, 9] (by decide +kernel) (by decide +kernel)
set_option maxRecDepth 20000 in
theorem gX3_hand_X3_isColour : GoodIn wsX3_hand (va_wsS RX3 95 yX3_isColour wsX3_isColour) := goodIn_app (goodIn_of _ (by decide +kernel)) ggX3_hand_X3_isColour
theorem dX3_hand_0 : decode cX3_hand 0 = .ok (.aload_n 0, 1) := by decide +kernel
theorem dX3_hand_1 : decode cX3_hand 1 = .ok (.iload_n 1, 1) := by decide +kernel
theorem dX3_hand_2 : decode cX3_hand 2 = .ok (.invokestatic 91, 3) := by decide +kernel
theorem dX3_hand_5 : decode cX3_hand 5 = .ok (.ifCond .eq 14, 3) := by decide +kernel
theorem dX3_hand_8 : decode cX3_hand 8 = .ok (.iload_n 2, 1) := by decide +kernel
theorem dX3_hand_9 : decode cX3_hand 9 = .ok (.invokestatic 95, 3) := by decide +kernel
theorem dX3_hand_12 : decode cX3_hand 12 = .ok (.ifCond .eq 7, 3) := by decide +kernel
theorem dX3_hand_15 : decode cX3_hand 15 = .ok (.iconst 0, 1) := by decide +kernel
theorem dX3_hand_16 : decode cX3_hand 16 = .ok (.goto 4, 3) := by decide +kernel
theorem dX3_hand_19 : decode cX3_hand 19 = .ok (.iconst 1, 1) := by decide +kernel
theorem dX3_hand_20 : decode cX3_hand 20 = .ok (.putfield 81, 3) := by decide +kernel
theorem dX3_hand_23 : decode cX3_hand 23 = .ok (.aload_n 0, 1) := by decide +kernel
theorem dX3_hand_24 : decode cX3_hand 24 = .ok (.getfield 81, 3) := by decide +kernel
theorem dX3_hand_27 : decode cX3_hand 27 = .ok (.ifCond .le 7, 3) := by decide +kernel
theorem dX3_hand_30 : decode cX3_hand 30 = .ok (.iconst 0, 1) := by decide +kernel
theorem dX3_hand_31 : decode cX3_hand 31 = .ok (.goto 14, 3) := by decide +kernel
theorem dX3_hand_34 : decode cX3_hand 34 = .ok (.aload_n 0, 1) := by decide +kernel
theorem dX3_hand_35 : decode cX3_hand 35 = .ok (.getfield 7, 3) := by decide +kernel
theorem dX3_hand_38 : decode cX3_hand 38 = .ok (.bipush 8, 2) := by decide +kernel
theorem dX3_hand_40 : decode cX3_hand 40 = .ok (.iload_n 1, 1) := by decide +kernel
theorem dX3_hand_41 : decode cX3_hand 41 = .ok (.imul, 1) := by decide +kernel
theorem dX3_hand_42 : decode cX3_hand 42 = .ok (.iload_n 2, 1) := by decide +kernel
theorem dX3_hand_43 : decode cX3_hand 43 = .ok (.iadd, 1) := by decide +kernel
theorem dX3_hand_44 : decode cX3_hand 44 = .ok (.iaload, 1) := by decide +kernel
theorem dX3_hand_45 : decode cX3_hand 45 = .ok (.ireturn, 1) := by decide +kernel
set_option maxRecDepth 20000 in
theorem ggX3_needsOf_X3_at : GoodIn wsX3_needsOf wsX3_at := goodIn_r _ [7, 8, 9, 10, 11, 12, 13, 14, 15, 16, 17, 18, 19, 20, 21, 22, 23, 24, 25, 26, 27, 28, 29, 30, 31, 32, 33, 34] (by decide +kernel) (by decide +kernel)
set_option maxRecDepth 20000 in
theorem gX3_needsOf_X3_at : GoodIn wsX3_needsOf (wsV RX3 99 RX3 yX3_at wsX3_at) := goodIn_app (goodIn_of _ (by decide +kernel)) ggX3_needsOf_X3_at
theorem dX3_needsOf_0 : decode cX3_needsOf 0 = .ok (.iconst 0, 1) := by decide +kernel
theorem dX3_needsOf_1 : decode cX3_needsOf 1 = .ok (.istore_n 3, 1) := by decide +kernel
theorem dX3_needsOf_2 : decode cX3_needsOf 2 = .ok (.iconst 0, 1) := by decide +kernel
theorem dX3_needsOf_3 : decode cX3_needsOf 3 = .ok (.istore 4, 2) := by decide +kernel
theorem dX3_needsOf_5 : decode cX3_needsOf 5 = .ok (.iload 4, 2) := by decide +kernel
theorem dX3_needsOf_7 : decode cX3_needsOf 7 = .ok (.aload_n 0, 1) := by decide +kernel
theorem dX3_needsOf_8 : decode cX3_needsOf 8 = .ok (.getfield 29, 3) := by decide +kernel
theorem dX3_needsOf_11 : decode cX3_needsOf 11 = .ok (.iload_n 1, 1) := by decide +kernel
theorem dX3_needsOf_12 : decode cX3_needsOf 12 = .ok (.iaload, 1) := by decide +kernel
theorem dX3_needsOf_13 : decode cX3_needsOf 13 = .ok (.aload_n 0, 1) := by decide +kernel
theorem dX3_needsOf_14 : decode cX3_needsOf 14 = .ok (.getfield 32, 3) := by decide +kernel
theorem dX3_needsOf_17 : decode cX3_needsOf 17 = .ok (.iload_n 1, 1) := by decide +kernel
theorem dX3_needsOf_18 : decode cX3_needsOf 18 = .ok (.iaload, 1) := by decide +kernel
theorem dX3_needsOf_19 : decode cX3_needsOf 19 = .ok (.imul, 1) := by decide +kernel
theorem dX3_needsOf_20 : decode cX3_needsOf 20 = .ok (.if_icmp .ge 44, 3) := by decide +kernel
theorem dX3_needsOf_23 : decode cX3_needsOf 23 = .ok (.iload_n 3, 1) := by decide +kernel
theorem dX3_needsOf_24 : decode cX3_needsOf 24 = .ok (.aload_n 0, 1) := by decide +kernel
theorem dX3_needsOf_25 : decode cX3_needsOf 25 = .ok (.iload_n 1, 1) := by decide +kernel
theorem dX3_needsOf_26 : decode cX3_needsOf 26 = .ok (.iload 4, 2) := by decide +kernel
theorem dX3_needsOf_28 : decode cX3_needsOf 28 = .ok (.aload_n 0, 1) := by decide +kernel
theorem dX3_needsOf_29 : decode cX3_needsOf 29 = .ok (.getfield 29, 3) := by decide +kernel
theorem dX3_needsOf_32 : decode cX3_needsOf 32 = .ok (.iload_n 1, 1) := by decide +kernel
theorem dX3_needsOf_33 : decode cX3_needsOf 33 = .ok (.iaload, 1) := by decide +kernel
theorem dX3_needsOf_34 : decode cX3_needsOf 34 = .ok (.irem, 1) := by decide +kernel
theorem dX3_needsOf_35 : decode cX3_needsOf 35 = .ok (.iload 4, 2) := by decide +kernel
theorem dX3_needsOf_37 : decode cX3_needsOf 37 = .ok (.aload_n 0, 1) := by decide +kernel
theorem dX3_needsOf_38 : decode cX3_needsOf 38 = .ok (.getfield 29, 3) := by decide +kernel
theorem dX3_needsOf_41 : decode cX3_needsOf 41 = .ok (.iload_n 1, 1) := by decide +kernel
theorem dX3_needsOf_42 : decode cX3_needsOf 42 = .ok (.iaload, 1) := by decide +kernel
theorem dX3_needsOf_43 : decode cX3_needsOf 43 = .ok (.idiv, 1) := by decide +kernel
theorem dX3_needsOf_44 : decode cX3_needsOf 44 = .ok (.invokevirtual 99, 3) := by decide +kernel
theorem dX3_needsOf_47 : decode cX3_needsOf 47 = .ok (.iload_n 2, 1) := by decide +kernel
theorem dX3_needsOf_48 : decode cX3_needsOf 48 = .ok (.if_icmp .ne 7, 3) := by decide +kernel
theorem dX3_needsOf_51 : decode cX3_needsOf 51 = .ok (.iconst 1, 1) := by decide +kernel
theorem dX3_needsOf_52 : decode cX3_needsOf 52 = .ok (.goto 4, 3) := by decide +kernel
theorem dX3_needsOf_55 : decode cX3_needsOf 55 = .ok (.iconst 0, 1) := by decide +kernel
theorem dX3_needsOf_56 : decode cX3_needsOf 56 = .ok (.iadd, 1) := by decide +kernel
theorem dX3_needsOf_57 : decode cX3_needsOf 57 = .ok (.istore_n 3, 1) := by decide +kernel
theorem dX3_needsOf_58 : decode cX3_needsOf 58 = .ok (.iinc 4 1, 3) := by decide +kernel
theorem dX3_needsOf_61 : decode cX3_needsOf 61 = .ok (.goto (-56), 3) := by decide +kernel
theorem dX3_needsOf_64 : decode cX3_needsOf 64 = .ok (.iload_n 3, 1) := by decide +kernel
theorem dX3_needsOf_65 : decode cX3_needsOf 65 = .ok (.ireturn, 1) := by decide +kernel
theorem dX3_at_0 : decode cX3_at 0 = .ok (.aload_n 0, 1) := by decide +kernel
theorem dX3_at_1 : decode cX3_at 1 = .ok (.getfield 35, 3) := by decide +kernel
theorem dX3_at_4 : decode cX3_at 4 = .ok (.bipush 48, 2) := by decide +kernel
theorem dX3_at_6 : decode cX3_at 6 = .ok (.iload_n 1, 1) := by decide +kernel
theorem dX3_at_7 : decode cX3_at 7 = .ok (.imul, 1) := by decide +kernel
theorem dX3_at_8 : decode cX3_at 8 = .ok (.bipush 8, 2) := by decide +kernel
theorem dX3_at_10 : decode cX3_at 10 = .ok (.iload_n 3, 1) := by decide +kernel
theorem dX3_at_11 : decode cX3_at 11 = .ok (.imul, 1) := by decide +kernel
theorem dX3_at_12 : decode cX3_at 12 = .ok (.iadd, 1) := by decide +kernel
theorem dX3_at_13 : decode cX3_at 13 = .ok (.iload_n 2, 1) := by decide +kernel
theorem dX3_at_14 : decode cX3_at 14 = .ok (.iadd, 1) := by decide +kernel
theorem dX3_at_15 : decode cX3_at 15 = .ok (.iaload, 1) := by decide +kernel
theorem dX3_at_16 : decode cX3_at 16 = .ok (.ireturn, 1) := by decide +kernel
set_option maxRecDepth 20000 in
theorem ggX3_beads_X3_isColour : GoodIn wsX3_beads wsX3_isColour := goodIn_r _ [8, 9, 10, 7, 11] (by decide +kernel) (by decide +kernel)
set_option maxRecDepth 20000 in
theorem gX3_beads_X3_isColour : GoodIn wsX3_beads (va_wsS RX3 95 yX3_isColour wsX3_isColour) := goodIn_app (goodIn_of _ (by decide +kernel)) ggX3_beads_X3_isColour
set_option maxRecDepth 20000 in
theorem ggX3_beads_X3_isBelt : GoodIn wsX3_beads wsX3_isBelt := goodIn_r _ [15, 4, 9, 10, 7, 11, 27, 28, 29, 30, 31, 32, 33, 34, 35, 36, 37, 38, 39, 40, 41, 42, 43, 44, 45, 46, 47, 48, 49, 50, 51, 52] (by decide +kernel) (by decide +kernel)
set_option maxRecDepth 20000 in
theorem gX3_beads_X3_isBelt : GoodIn wsX3_beads (wsV RX3 103 RX3 yX3_isBelt wsX3_isBelt) := goodIn_app (goodIn_of _ (by decide +kernel)) ggX3_beads_X3_isBelt
set_option maxRecDepth 20000 in
theorem ggX3_beads_X3_needsOf : GoodIn wsX3_beads wsX3_needsOf := goodIn_r _ [19, 20, 21, 22, 23, 24, 7, 25, 26, 27, 28, 29, 30, 31, 32, 33, 34, 35, 36, 37, 38, 39, 40, 41, 42, 43, 44, 45, 46, 47, 48, 49, 50, 51, 52] (by decide +kernel) (by decide +kernel)
set_option maxRecDepth 20000 in
theorem gX3_beads_X3_needsOf : GoodIn wsX3_beads (wsV RX3 106 RX3 yX3_needsOf wsX3_needsOf) := goodIn_app (goodIn_of _ (by decide +kernel)) ggX3_beads_X3_needsOf
theorem dX3_beads_0 : decode cX3_beads 0 = .ok (.aload_n 0, 1) := by decide +kernel
theorem dX3_beads_1 : decode cX3_beads 1 = .ok (.iload_n 1, 1) := by decide +kernel
theorem dX3_beads_2 : decode cX3_beads 2 = .ok (.invokestatic 95, 3) := by decide +kernel
theorem dX3_beads_5 : decode cX3_beads 5 = .ok (.ifCond .eq 7, 3) := by decide +kernel
theorem dX3_beads_8 : decode cX3_beads 8 = .ok (.iconst 0, 1) := by decide +kernel
theorem dX3_beads_9 : decode cX3_beads 9 = .ok (.goto 4, 3) := by decide +kernel
theorem dX3_beads_12 : decode cX3_beads 12 = .ok (.iconst 1, 1) := by decide +kernel
theorem dX3_beads_13 : decode cX3_beads 13 = .ok (.putfield 81, 3) := by decide +kernel
theorem dX3_beads_16 : decode cX3_beads 16 = .ok (.aload_n 0, 1) := by decide +kernel
theorem dX3_beads_17 : decode cX3_beads 17 = .ok (.getfield 81, 3) := by decide +kernel
theorem dX3_beads_20 : decode cX3_beads 20 = .ok (.ifCond .le 5, 3) := by decide +kernel
theorem dX3_beads_23 : decode cX3_beads 23 = .ok (.iconst 0, 1) := by decide +kernel
theorem dX3_beads_24 : decode cX3_beads 24 = .ok (.ireturn, 1) := by decide +kernel
theorem dX3_beads_25 : decode cX3_beads 25 = .ok (.aload_n 0, 1) := by decide +kernel
theorem dX3_beads_26 : decode cX3_beads 26 = .ok (.getfield 13, 3) := by decide +kernel
theorem dX3_beads_29 : decode cX3_beads 29 = .ok (.iload_n 1, 1) := by decide +kernel
theorem dX3_beads_30 : decode cX3_beads 30 = .ok (.iaload, 1) := by decide +kernel
theorem dX3_beads_31 : decode cX3_beads 31 = .ok (.istore_n 2, 1) := by decide +kernel
theorem dX3_beads_32 : decode cX3_beads 32 = .ok (.iconst 0, 1) := by decide +kernel
theorem dX3_beads_33 : decode cX3_beads 33 = .ok (.istore_n 3, 1) := by decide +kernel
theorem dX3_beads_34 : decode cX3_beads 34 = .ok (.iload_n 3, 1) := by decide +kernel
theorem dX3_beads_35 : decode cX3_beads 35 = .ok (.bipush 7, 2) := by decide +kernel
theorem dX3_beads_37 : decode cX3_beads 37 = .ok (.if_icmp .ge 23, 3) := by decide +kernel
theorem dX3_beads_40 : decode cX3_beads 40 = .ok (.iload_n 2, 1) := by decide +kernel
theorem dX3_beads_41 : decode cX3_beads 41 = .ok (.aload_n 0, 1) := by decide +kernel
theorem dX3_beads_42 : decode cX3_beads 42 = .ok (.getfield 7, 3) := by decide +kernel
theorem dX3_beads_45 : decode cX3_beads 45 = .ok (.bipush 8, 2) := by decide +kernel
theorem dX3_beads_47 : decode cX3_beads 47 = .ok (.iload_n 3, 1) := by decide +kernel
theorem dX3_beads_48 : decode cX3_beads 48 = .ok (.imul, 1) := by decide +kernel
theorem dX3_beads_49 : decode cX3_beads 49 = .ok (.iload_n 1, 1) := by decide +kernel
theorem dX3_beads_50 : decode cX3_beads 50 = .ok (.iadd, 1) := by decide +kernel
theorem dX3_beads_51 : decode cX3_beads 51 = .ok (.iaload, 1) := by decide +kernel
theorem dX3_beads_52 : decode cX3_beads 52 = .ok (.iadd, 1) := by decide +kernel
theorem dX3_beads_53 : decode cX3_beads 53 = .ok (.istore_n 2, 1) := by decide +kernel
theorem dX3_beads_54 : decode cX3_beads 54 = .ok (.iinc 3 1, 3) := by decide +kernel
theorem dX3_beads_57 : decode cX3_beads 57 = .ok (.goto (-23), 3) := by decide +kernel
theorem dX3_beads_60 : decode cX3_beads 60 = .ok (.iconst 0, 1) := by decide +kernel
theorem dX3_beads_61 : decode cX3_beads 61 = .ok (.istore_n 3, 1) := by decide +kernel
theorem dX3_beads_62 : decode cX3_beads 62 = .ok (.iload_n 3, 1) := by decide +kernel
theorem dX3_beads_63 : decode cX3_beads 63 = .ok (.bipush 20, 2) := by decide +kernel
theorem dX3_beads_65 : decode cX3_beads 65 = .ok (.if_icmp .ge 35, 3) := by decide +kernel
theorem dX3_beads_68 : decode cX3_beads 68 = .ok (.iload_n 2, 1) := by decide +kernel
theorem dX3_beads_69 : decode cX3_beads 69 = .ok (.aload_n 0, 1) := by decide +kernel
theorem dX3_beads_70 : decode cX3_beads 70 = .ok (.iload_n 3, 1) := by decide +kernel
theorem dX3_beads_71 : decode cX3_beads 71 = .ok (.invokevirtual 103, 3) := by decide +kernel
theorem dX3_beads_74 : decode cX3_beads 74 = .ok (.ifCond .eq 17, 3) := by decide +kernel
theorem dX3_beads_77 : decode cX3_beads 77 = .ok (.aload_n 0, 1) := by decide +kernel
theorem dX3_beads_78 : decode cX3_beads 78 = .ok (.aload_n 0, 1) := by decide +kernel
theorem dX3_beads_79 : decode cX3_beads 79 = .ok (.getfield 44, 3) := by decide +kernel
theorem dX3_beads_82 : decode cX3_beads 82 = .ok (.iload_n 3, 1) := by decide +kernel
theorem dX3_beads_83 : decode cX3_beads 83 = .ok (.iaload, 1) := by decide +kernel
theorem dX3_beads_84 : decode cX3_beads 84 = .ok (.iload_n 1, 1) := by decide +kernel
theorem dX3_beads_85 : decode cX3_beads 85 = .ok (.invokevirtual 106, 3) := by decide +kernel
theorem dX3_beads_88 : decode cX3_beads 88 = .ok (.goto 4, 3) := by decide +kernel
theorem dX3_beads_91 : decode cX3_beads 91 = .ok (.iconst 0, 1) := by decide +kernel
theorem dX3_beads_92 : decode cX3_beads 92 = .ok (.iadd, 1) := by decide +kernel
theorem dX3_beads_93 : decode cX3_beads 93 = .ok (.istore_n 2, 1) := by decide +kernel
theorem dX3_beads_94 : decode cX3_beads 94 = .ok (.iinc 3 1, 3) := by decide +kernel
theorem dX3_beads_97 : decode cX3_beads 97 = .ok (.goto (-35), 3) := by decide +kernel
theorem dX3_beads_100 : decode cX3_beads 100 = .ok (.iload_n 2, 1) := by decide +kernel
theorem dX3_beads_101 : decode cX3_beads 101 = .ok (.ireturn, 1) := by decide +kernel
set_option maxRecDepth 20000 in
theorem ggX3_brought_X3_isColour : GoodIn wsX3_brought wsX3_isColour := goodIn_r _ [6, 7, 8, 5, 9] (by decide +kernel) (by decide +kernel)
set_option maxRecDepth 20000 in
theorem gX3_brought_X3_isColour : GoodIn wsX3_brought (va_wsS RX3 95 yX3_isColour wsX3_isColour) := goodIn_app (goodIn_of _ (by decide +kernel)) ggX3_brought_X3_isColour
theorem dX3_brought_0 : decode cX3_brought 0 = .ok (.aload_n 0, 1) := by decide +kernel
theorem dX3_brought_1 : decode cX3_brought 1 = .ok (.iload_n 1, 1) := by decide +kernel
theorem dX3_brought_2 : decode cX3_brought 2 = .ok (.invokestatic 95, 3) := by decide +kernel
theorem dX3_brought_5 : decode cX3_brought 5 = .ok (.ifCond .eq 7, 3) := by decide +kernel
theorem dX3_brought_8 : decode cX3_brought 8 = .ok (.iconst 0, 1) := by decide +kernel
theorem dX3_brought_9 : decode cX3_brought 9 = .ok (.goto 4, 3) := by decide +kernel
theorem dX3_brought_12 : decode cX3_brought 12 = .ok (.iconst 1, 1) := by decide +kernel
theorem dX3_brought_13 : decode cX3_brought 13 = .ok (.putfield 81, 3) := by decide +kernel
theorem dX3_brought_16 : decode cX3_brought 16 = .ok (.aload_n 0, 1) := by decide +kernel
theorem dX3_brought_17 : decode cX3_brought 17 = .ok (.getfield 81, 3) := by decide +kernel
theorem dX3_brought_20 : decode cX3_brought 20 = .ok (.ifCond .le 7, 3) := by decide +kernel
theorem dX3_brought_23 : decode cX3_brought 23 = .ok (.iconst 0, 1) := by decide +kernel
theorem dX3_brought_24 : decode cX3_brought 24 = .ok (.goto 9, 3) := by decide +kernel
theorem dX3_brought_27 : decode cX3_brought 27 = .ok (.aload_n 0, 1) := by decide +kernel
theorem dX3_brought_28 : decode cX3_brought 28 = .ok (.getfield 16, 3) := by decide +kernel
theorem dX3_brought_31 : decode cX3_brought 31 = .ok (.iload_n 1, 1) := by decide +kernel
theorem dX3_brought_32 : decode cX3_brought 32 = .ok (.iaload, 1) := by decide +kernel
theorem dX3_brought_33 : decode cX3_brought 33 = .ok (.ireturn, 1) := by decide +kernel
set_option maxRecDepth 20000 in
theorem ggX3_draft_X3_isIn : GoodIn wsX3_draft wsX3_isIn := goodIn_r _ [8] (by decide +kernel) (by decide +kernel)
set_option maxRecDepth 20000 in
theorem gX3_draft_X3_isIn : GoodIn wsX3_draft (va_wsS RX3 84 yX3_isIn wsX3_isIn) := goodIn_app (goodIn_of _ (by decide +kernel)) ggX3_draft_X3_isIn
theorem dX3_draft_0 : decode cX3_draft 0 = .ok (.aload_n 0, 1) := by decide +kernel
theorem dX3_draft_1 : decode cX3_draft 1 = .ok (.iload_n 1, 1) := by decide +kernel
theorem dX3_draft_2 : decode cX3_draft 2 = .ok (.iconst 1, 1) := by decide +kernel
theorem dX3_draft_3 : decode cX3_draft 3 = .ok (.bipush 8, 2) := by decide +kernel
theorem dX3_draft_5 : decode cX3_draft 5 = .ok (.invokestatic 84, 3) := by decide +kernel
theorem dX3_draft_8 : decode cX3_draft 8 = .ok (.ifCond .eq 17, 3) := by decide +kernel
theorem dX3_draft_11 : decode cX3_draft 11 = .ok (.iload_n 2, 1) := by decide +kernel
theorem dX3_draft_12 : decode cX3_draft 12 = .ok (.iconst 1, 1) := by decide +kernel
theorem dX3_draft_13 : decode cX3_draft 13 = .ok (.bipush 6, 2) := by decide +kernel
theorem dX3_draft_15 : decode cX3_draft 15 = .ok (.invokestatic 84, 3) := by decide +kernel
theorem dX3_draft_18 : decode cX3_draft 18 = .ok (.ifCond .eq 7, 3) := by decide +kernel
theorem dX3_draft_21 : decode cX3_draft 21 = .ok (.iconst 0, 1) := by decide +kernel
theorem dX3_draft_22 : decode cX3_draft 22 = .ok (.goto 4, 3) := by decide +kernel
theorem dX3_draft_25 : decode cX3_draft 25 = .ok (.iconst 1, 1) := by decide +kernel
theorem dX3_draft_26 : decode cX3_draft 26 = .ok (.putfield 81, 3) := by decide +kernel
theorem dX3_draft_29 : decode cX3_draft 29 = .ok (.aload_n 0, 1) := by decide +kernel
theorem dX3_draft_30 : decode cX3_draft 30 = .ok (.getfield 81, 3) := by decide +kernel
theorem dX3_draft_33 : decode cX3_draft 33 = .ok (.ifCond .le 5, 3) := by decide +kernel
theorem dX3_draft_36 : decode cX3_draft 36 = .ok (.iconst 0, 1) := by decide +kernel
theorem dX3_draft_37 : decode cX3_draft 37 = .ok (.ireturn, 1) := by decide +kernel
theorem dX3_draft_38 : decode cX3_draft 38 = .ok (.aload_n 0, 1) := by decide +kernel
theorem dX3_draft_39 : decode cX3_draft 39 = .ok (.iload_n 1, 1) := by decide +kernel
theorem dX3_draft_40 : decode cX3_draft 40 = .ok (.putfield 19, 3) := by decide +kernel
theorem dX3_draft_43 : decode cX3_draft 43 = .ok (.aload_n 0, 1) := by decide +kernel
theorem dX3_draft_44 : decode cX3_draft 44 = .ok (.iload_n 2, 1) := by decide +kernel
theorem dX3_draft_45 : decode cX3_draft 45 = .ok (.putfield 23, 3) := by decide +kernel
theorem dX3_draft_48 : decode cX3_draft 48 = .ok (.iconst 0, 1) := by decide +kernel
theorem dX3_draft_49 : decode cX3_draft 49 = .ok (.istore_n 3, 1) := by decide +kernel
theorem dX3_draft_50 : decode cX3_draft 50 = .ok (.iload_n 3, 1) := by decide +kernel
theorem dX3_draft_51 : decode cX3_draft 51 = .ok (.bipush 48, 2) := by decide +kernel
theorem dX3_draft_53 : decode cX3_draft 53 = .ok (.if_icmp .ge 16, 3) := by decide +kernel
theorem dX3_draft_56 : decode cX3_draft 56 = .ok (.aload_n 0, 1) := by decide +kernel
theorem dX3_draft_57 : decode cX3_draft 57 = .ok (.getfield 26, 3) := by decide +kernel
theorem dX3_draft_60 : decode cX3_draft 60 = .ok (.iload_n 3, 1) := by decide +kernel
theorem dX3_draft_61 : decode cX3_draft 61 = .ok (.iconst 0, 1) := by decide +kernel
theorem dX3_draft_62 : decode cX3_draft 62 = .ok (.iastore, 1) := by decide +kernel
theorem dX3_draft_63 : decode cX3_draft 63 = .ok (.iinc 3 1, 3) := by decide +kernel
theorem dX3_draft_66 : decode cX3_draft 66 = .ok (.goto (-16), 3) := by decide +kernel
theorem dX3_draft_69 : decode cX3_draft 69 = .ok (.iload_n 1, 1) := by decide +kernel
theorem dX3_draft_70 : decode cX3_draft 70 = .ok (.iload_n 2, 1) := by decide +kernel
theorem dX3_draft_71 : decode cX3_draft 71 = .ok (.imul, 1) := by decide +kernel
theorem dX3_draft_72 : decode cX3_draft 72 = .ok (.ireturn, 1) := by decide +kernel
set_option maxRecDepth 20000 in
theorem ggX3_bead_X3_isIn : GoodIn wsX3_bead wsX3_isIn := goodIn_r _ [8] (by decide +kernel) (by decide +kernel)
set_option maxRecDepth 20000 in
theorem gX3_bead_X3_isIn : GoodIn wsX3_bead (va_wsS RX3 84 yX3_isIn wsX3_isIn) := goodIn_app (goodIn_of _ (by decide +kernel)) ggX3_bead_X3_isIn
set_option maxRecDepth 20000 in
theorem ggX3_bead_X3_isColour : GoodIn wsX3_bead wsX3_isColour := goodIn_r _ [11, 5, 6, 7, 8] (by decide +kernel) (by decide +kernel)
set_option maxRecDepth 20000 in
theorem gX3_bead_X3_isColour : GoodIn wsX3_bead (va_wsS RX3 95 yX3_isColour wsX3_isColour) := goodIn_app (goodIn_of _ (by decide +kernel)) ggX3_bead_X3_isColour
theorem dX3_bead_0 : decode cX3_bead 0 = .ok (.iload_n 1, 1) := by decide +kernel
theorem dX3_bead_1 : decode cX3_bead 1 = .ok (.iconst 0, 1) := by decide +kernel
theorem dX3_bead_2 : decode cX3_bead 2 = .ok (.aload_n 0, 1) := by decide +kernel
theorem dX3_bead_3 : decode cX3_bead 3 = .ok (.getfield 19, 3) := by decide +kernel
theorem dX3_bead_6 : decode cX3_bead 6 = .ok (.iconst 1, 1) := by decide +kernel
theorem dX3_bead_7 : decode cX3_bead 7 = .ok (.isub, 1) := by decide +kernel
theorem dX3_bead_8 : decode cX3_bead 8 = .ok (.invokestatic 84, 3) := by decide +kernel
theorem dX3_bead_11 : decode cX3_bead 11 = .ok (.ifCond .eq 28, 3) := by decide +kernel
theorem dX3_bead_14 : decode cX3_bead 14 = .ok (.iload_n 2, 1) := by decide +kernel
theorem dX3_bead_15 : decode cX3_bead 15 = .ok (.iconst 0, 1) := by decide +kernel
theorem dX3_bead_16 : decode cX3_bead 16 = .ok (.aload_n 0, 1) := by decide +kernel
theorem dX3_bead_17 : decode cX3_bead 17 = .ok (.getfield 23, 3) := by decide +kernel
theorem dX3_bead_20 : decode cX3_bead 20 = .ok (.iconst 1, 1) := by decide +kernel
theorem dX3_bead_21 : decode cX3_bead 21 = .ok (.isub, 1) := by decide +kernel
theorem dX3_bead_22 : decode cX3_bead 22 = .ok (.invokestatic 84, 3) := by decide +kernel
theorem dX3_bead_25 : decode cX3_bead 25 = .ok (.ifCond .eq 14, 3) := by decide +kernel
theorem dX3_bead_28 : decode cX3_bead 28 = .ok (.iload_n 3, 1) := by decide +kernel
theorem dX3_bead_29 : decode cX3_bead 29 = .ok (.invokestatic 95, 3) := by decide +kernel
theorem dX3_bead_32 : decode cX3_bead 32 = .ok (.ifCond .eq 7, 3) := by decide +kernel
theorem dX3_bead_35 : decode cX3_bead 35 = .ok (.iconst 1, 1) := by decide +kernel
theorem dX3_bead_36 : decode cX3_bead 36 = .ok (.goto 4, 3) := by decide +kernel
theorem dX3_bead_39 : decode cX3_bead 39 = .ok (.iconst 0, 1) := by decide +kernel
theorem dX3_bead_40 : decode cX3_bead 40 = .ok (.istore 4, 2) := by decide +kernel
theorem dX3_bead_42 : decode cX3_bead 42 = .ok (.aload_n 0, 1) := by decide +kernel
theorem dX3_bead_43 : decode cX3_bead 43 = .ok (.iload 4, 2) := by decide +kernel
theorem dX3_bead_45 : decode cX3_bead 45 = .ok (.ifCond .eq 7, 3) := by decide +kernel
theorem dX3_bead_48 : decode cX3_bead 48 = .ok (.iconst 0, 1) := by decide +kernel
theorem dX3_bead_49 : decode cX3_bead 49 = .ok (.goto 4, 3) := by decide +kernel
theorem dX3_bead_52 : decode cX3_bead 52 = .ok (.iconst 1, 1) := by decide +kernel
theorem dX3_bead_53 : decode cX3_bead 53 = .ok (.putfield 81, 3) := by decide +kernel
theorem dX3_bead_56 : decode cX3_bead 56 = .ok (.aload_n 0, 1) := by decide +kernel
theorem dX3_bead_57 : decode cX3_bead 57 = .ok (.getfield 81, 3) := by decide +kernel
theorem dX3_bead_60 : decode cX3_bead 60 = .ok (.ifCond .le 5, 3) := by decide +kernel
theorem dX3_bead_63 : decode cX3_bead 63 = .ok (.iconst 0, 1) := by decide +kernel
theorem dX3_bead_64 : decode cX3_bead 64 = .ok (.ireturn, 1) := by decide +kernel
theorem dX3_bead_65 : decode cX3_bead 65 = .ok (.aload_n 0, 1) := by decide +kernel
theorem dX3_bead_66 : decode cX3_bead 66 = .ok (.getfield 26, 3) := by decide +kernel
theorem dX3_bead_69 : decode cX3_bead 69 = .ok (.bipush 8, 2) := by decide +kernel
theorem dX3_bead_71 : decode cX3_bead 71 = .ok (.iload_n 2, 1) := by decide +kernel
theorem dX3_bead_72 : decode cX3_bead 72 = .ok (.imul, 1) := by decide +kernel
theorem dX3_bead_73 : decode cX3_bead 73 = .ok (.iload_n 1, 1) := by decide +kernel
theorem dX3_bead_74 : decode cX3_bead 74 = .ok (.iadd, 1) := by decide +kernel
theorem dX3_bead_75 : decode cX3_bead 75 = .ok (.iaload, 1) := by decide +kernel
theorem dX3_bead_76 : decode cX3_bead 76 = .ok (.istore 5, 2) := by decide +kernel
theorem dX3_bead_78 : decode cX3_bead 78 = .ok (.aload_n 0, 1) := by decide +kernel
theorem dX3_bead_79 : decode cX3_bead 79 = .ok (.getfield 26, 3) := by decide +kernel
theorem dX3_bead_82 : decode cX3_bead 82 = .ok (.bipush 8, 2) := by decide +kernel
theorem dX3_bead_84 : decode cX3_bead 84 = .ok (.iload_n 2, 1) := by decide +kernel
theorem dX3_bead_85 : decode cX3_bead 85 = .ok (.imul, 1) := by decide +kernel
theorem dX3_bead_86 : decode cX3_bead 86 = .ok (.iload_n 1, 1) := by decide +kernel
theorem dX3_bead_87 : decode cX3_bead 87 = .ok (.iadd, 1) := by decide +kernel
theorem dX3_bead_88 : decode cX3_bead 88 = .ok (.iload_n 3, 1) := by decide +kernel
theorem dX3_bead_89 : decode cX3_bead 89 = .ok (.iastore, 1) := by decide +kernel
theorem dX3_bead_90 : decode cX3_bead 90 = .ok (.iload 5, 2) := by decide +kernel
theorem dX3_bead_92 : decode cX3_bead 92 = .ok (.ireturn, 1) := by decide +kernel
set_option maxRecDepth 20000 in
theorem ggX3_image_X3_at : GoodIn wsX3_image wsX3_at := goodIn_r _ [7, 8, 9, 10, 11, 12, 13, 14, 15, 16, 17, 18, 19, 20, 21, 22, 23, 24, 25, 26, 27, 28, 29, 30, 31, 32, 33, 34] (by decide +kernel) (by decide +kernel)
set_option maxRecDepth 20000 in
theorem gX3_image_X3_at : GoodIn wsX3_image (wsV RX3 99 RX3 yX3_at wsX3_at) := goodIn_app (goodIn_of _ (by decide +kernel)) ggX3_image_X3_at
theorem dX3_image_0 : decode cX3_image 0 = .ok (.aload_n 0, 1) := by decide +kernel
theorem dX3_image_1 : decode cX3_image 1 = .ok (.getfield 29, 3) := by decide +kernel
theorem dX3_image_4 : decode cX3_image 4 = .ok (.iload_n 1, 1) := by decide +kernel
theorem dX3_image_5 : decode cX3_image 5 = .ok (.iaload, 1) := by decide +kernel
theorem dX3_image_6 : decode cX3_image 6 = .ok (.istore 6, 2) := by decide +kernel
theorem dX3_image_8 : decode cX3_image 8 = .ok (.aload_n 0, 1) := by decide +kernel
theorem dX3_image_9 : decode cX3_image 9 = .ok (.getfield 32, 3) := by decide +kernel
theorem dX3_image_12 : decode cX3_image 12 = .ok (.iload_n 1, 1) := by decide +kernel
theorem dX3_image_13 : decode cX3_image 13 = .ok (.iaload, 1) := by decide +kernel
theorem dX3_image_14 : decode cX3_image 14 = .ok (.istore 7, 2) := by decide +kernel
theorem dX3_image_16 : decode cX3_image 16 = .ok (.iload_n 2, 1) := by decide +kernel
theorem dX3_image_17 : decode cX3_image 17 = .ok (.istore 8, 2) := by decide +kernel
theorem dX3_image_19 : decode cX3_image 19 = .ok (.iload_n 3, 1) := by decide +kernel
theorem dX3_image_20 : decode cX3_image 20 = .ok (.istore 9, 2) := by decide +kernel
theorem dX3_image_22 : decode cX3_image 22 = .ok (.iload 4, 2) := by decide +kernel
theorem dX3_image_24 : decode cX3_image 24 = .ok (.iconst 1, 1) := by decide +kernel
theorem dX3_image_25 : decode cX3_image 25 = .ok (.if_icmp .ne 17, 3) := by decide +kernel
theorem dX3_image_28 : decode cX3_image 28 = .ok (.iload_n 3, 1) := by decide +kernel
theorem dX3_image_29 : decode cX3_image 29 = .ok (.istore 8, 2) := by decide +kernel
theorem dX3_image_31 : decode cX3_image 31 = .ok (.iload 7, 2) := by decide +kernel
theorem dX3_image_33 : decode cX3_image 33 = .ok (.iconst 1, 1) := by decide +kernel
theorem dX3_image_34 : decode cX3_image 34 = .ok (.isub, 1) := by decide +kernel
theorem dX3_image_35 : decode cX3_image 35 = .ok (.iload_n 2, 1) := by decide +kernel
theorem dX3_image_36 : decode cX3_image 36 = .ok (.isub, 1) := by decide +kernel
theorem dX3_image_37 : decode cX3_image 37 = .ok (.istore 9, 2) := by decide +kernel
theorem dX3_image_39 : decode cX3_image 39 = .ok (.goto 45, 3) := by decide +kernel
theorem dX3_image_42 : decode cX3_image 42 = .ok (.iload 4, 2) := by decide +kernel
theorem dX3_image_44 : decode cX3_image 44 = .ok (.iconst 2, 1) := by decide +kernel
theorem dX3_image_45 : decode cX3_image 45 = .ok (.if_icmp .ne 22, 3) := by decide +kernel
theorem dX3_image_48 : decode cX3_image 48 = .ok (.iload 6, 2) := by decide +kernel
theorem dX3_image_50 : decode cX3_image 50 = .ok (.iconst 1, 1) := by decide +kernel
theorem dX3_image_51 : decode cX3_image 51 = .ok (.isub, 1) := by decide +kernel
theorem dX3_image_52 : decode cX3_image 52 = .ok (.iload_n 2, 1) := by decide +kernel
theorem dX3_image_53 : decode cX3_image 53 = .ok (.isub, 1) := by decide +kernel
theorem dX3_image_54 : decode cX3_image 54 = .ok (.istore 8, 2) := by decide +kernel
theorem dX3_image_56 : decode cX3_image 56 = .ok (.iload 7, 2) := by decide +kernel
theorem dX3_image_58 : decode cX3_image 58 = .ok (.iconst 1, 1) := by decide +kernel
theorem dX3_image_59 : decode cX3_image 59 = .ok (.isub, 1) := by decide +kernel
theorem dX3_image_60 : decode cX3_image 60 = .ok (.iload_n 3, 1) := by decide +kernel
theorem dX3_image_61 : decode cX3_image 61 = .ok (.isub, 1) := by decide +kernel
theorem dX3_image_62 : decode cX3_image 62 = .ok (.istore 9, 2) := by decide +kernel
theorem dX3_image_64 : decode cX3_image 64 = .ok (.goto 20, 3) := by decide +kernel
theorem dX3_image_67 : decode cX3_image 67 = .ok (.iload 4, 2) := by decide +kernel
theorem dX3_image_69 : decode cX3_image 69 = .ok (.iconst 3, 1) := by decide +kernel
theorem dX3_image_70 : decode cX3_image 70 = .ok (.if_icmp .ne 14, 3) := by decide +kernel
theorem dX3_image_73 : decode cX3_image 73 = .ok (.iload 6, 2) := by decide +kernel
theorem dX3_image_75 : decode cX3_image 75 = .ok (.iconst 1, 1) := by decide +kernel
theorem dX3_image_76 : decode cX3_image 76 = .ok (.isub, 1) := by decide +kernel
theorem dX3_image_77 : decode cX3_image 77 = .ok (.iload_n 3, 1) := by decide +kernel
theorem dX3_image_78 : decode cX3_image 78 = .ok (.isub, 1) := by decide +kernel
theorem dX3_image_79 : decode cX3_image 79 = .ok (.istore 8, 2) := by decide +kernel
theorem dX3_image_81 : decode cX3_image 81 = .ok (.iload_n 2, 1) := by decide +kernel
theorem dX3_image_82 : decode cX3_image 82 = .ok (.istore 9, 2) := by decide +kernel
theorem dX3_image_84 : decode cX3_image 84 = .ok (.aload_n 0, 1) := by decide +kernel
theorem dX3_image_85 : decode cX3_image 85 = .ok (.iload_n 1, 1) := by decide +kernel
theorem dX3_image_86 : decode cX3_image 86 = .ok (.iload 5, 2) := by decide +kernel
theorem dX3_image_88 : decode cX3_image 88 = .ok (.ifCond .eq 13, 3) := by decide +kernel
theorem dX3_image_91 : decode cX3_image 91 = .ok (.iload 6, 2) := by decide +kernel
theorem dX3_image_93 : decode cX3_image 93 = .ok (.iconst 1, 1) := by decide +kernel
theorem dX3_image_94 : decode cX3_image 94 = .ok (.isub, 1) := by decide +kernel
theorem dX3_image_95 : decode cX3_image 95 = .ok (.iload 8, 2) := by decide +kernel
theorem dX3_image_97 : decode cX3_image 97 = .ok (.isub, 1) := by decide +kernel
theorem dX3_image_98 : decode cX3_image 98 = .ok (.goto 5, 3) := by decide +kernel
theorem dX3_image_101 : decode cX3_image 101 = .ok (.iload 8, 2) := by decide +kernel
theorem dX3_image_103 : decode cX3_image 103 = .ok (.iload 9, 2) := by decide +kernel
theorem dX3_image_105 : decode cX3_image 105 = .ok (.invokevirtual 99, 3) := by decide +kernel
theorem dX3_image_108 : decode cX3_image 108 = .ok (.ireturn, 1) := by decide +kernel
set_option maxRecDepth 20000 in
theorem ggX3_isImage_X3_at : GoodIn wsX3_isImage wsX3_at := goodIn_r _ [7, 8, 13, 14, 15, 16, 17, 18, 19, 20, 21, 22, 23, 24, 25, 26, 27, 28, 29, 30, 31, 32, 33, 34, 35, 36, 37, 38] (by decide +kernel) (by decide +kernel)
set_option maxRecDepth 20000 in
theorem gX3_isImage_X3_at : GoodIn wsX3_isImage (wsV RX3 99 RX3 yX3_at wsX3_at) := goodIn_app (goodIn_of _ (by decide +kernel)) ggX3_isImage_X3_at
set_option maxRecDepth 20000 in
theorem ggX3_isImage_X3_image : GoodIn wsX3_isImage wsX3_image := goodIn_r _ [12, 1, 2, 3, 4, 5, 6, 7, 8, 13, 14, 15, 16, 17, 18, 19, 20, 21, 22, 23, 24, 25, 26, 27, 28, 29, 30, 31, 32, 33, 34, 35, 36, 37, 38] (by decide +kernel) (by decide +kernel)
set_option maxRecDepth 20000 in
theorem gX3_isImage_X3_image : GoodIn wsX3_isImage (wsV RX3 110 RX3 yX3_image wsX3_image) := goodIn_app (goodIn_of _ (by decide +kernel)) ggX3_isImage_X3_image
theorem dX3_isImage_0 : decode cX3_isImage 0 = .ok (.iload_n 3, 1) := by decide +kernel
theorem dX3_isImage_1 : decode cX3_isImage 1 = .ok (.iconst 2, 1) := by decide +kernel
theorem dX3_isImage_2 : decode cX3_isImage 2 = .ok (.irem, 1) := by decide +kernel
theorem dX3_isImage_3 : decode cX3_isImage 3 = .ok (.ifCond .ne 12, 3) := by decide +kernel
theorem dX3_isImage_6 : decode cX3_isImage 6 = .ok (.aload_n 0, 1) := by decide +kernel
theorem dX3_isImage_7 : decode cX3_isImage 7 = .ok (.getfield 29, 3) := by decide +kernel
theorem dX3_isImage_10 : decode cX3_isImage 10 = .ok (.iload_n 2, 1) := by decide +kernel
theorem dX3_isImage_11 : decode cX3_isImage 11 = .ok (.iaload, 1) := by decide +kernel
theorem dX3_isImage_12 : decode cX3_isImage 12 = .ok (.goto 9, 3) := by decide +kernel
theorem dX3_isImage_15 : decode cX3_isImage 15 = .ok (.aload_n 0, 1) := by decide +kernel
theorem dX3_isImage_16 : decode cX3_isImage 16 = .ok (.getfield 32, 3) := by decide +kernel
theorem dX3_isImage_19 : decode cX3_isImage 19 = .ok (.iload_n 2, 1) := by decide +kernel
theorem dX3_isImage_20 : decode cX3_isImage 20 = .ok (.iaload, 1) := by decide +kernel
theorem dX3_isImage_21 : decode cX3_isImage 21 = .ok (.istore 5, 2) := by decide +kernel
theorem dX3_isImage_23 : decode cX3_isImage 23 = .ok (.iload_n 3, 1) := by decide +kernel
theorem dX3_isImage_24 : decode cX3_isImage 24 = .ok (.iconst 2, 1) := by decide +kernel
theorem dX3_isImage_25 : decode cX3_isImage 25 = .ok (.irem, 1) := by decide +kernel
theorem dX3_isImage_26 : decode cX3_isImage 26 = .ok (.ifCond .ne 12, 3) := by decide +kernel
theorem dX3_isImage_29 : decode cX3_isImage 29 = .ok (.aload_n 0, 1) := by decide +kernel
theorem dX3_isImage_30 : decode cX3_isImage 30 = .ok (.getfield 32, 3) := by decide +kernel
theorem dX3_isImage_33 : decode cX3_isImage 33 = .ok (.iload_n 2, 1) := by decide +kernel
theorem dX3_isImage_34 : decode cX3_isImage 34 = .ok (.iaload, 1) := by decide +kernel
theorem dX3_isImage_35 : decode cX3_isImage 35 = .ok (.goto 9, 3) := by decide +kernel
theorem dX3_isImage_38 : decode cX3_isImage 38 = .ok (.aload_n 0, 1) := by decide +kernel
theorem dX3_isImage_39 : decode cX3_isImage 39 = .ok (.getfield 29, 3) := by decide +kernel
theorem dX3_isImage_42 : decode cX3_isImage 42 = .ok (.iload_n 2, 1) := by decide +kernel
theorem dX3_isImage_43 : decode cX3_isImage 43 = .ok (.iaload, 1) := by decide +kernel
theorem dX3_isImage_44 : decode cX3_isImage 44 = .ok (.istore 6, 2) := by decide +kernel
theorem dX3_isImage_46 : decode cX3_isImage 46 = .ok (.aload_n 0, 1) := by decide +kernel
theorem dX3_isImage_47 : decode cX3_isImage 47 = .ok (.getfield 29, 3) := by decide +kernel
theorem dX3_isImage_50 : decode cX3_isImage 50 = .ok (.iload_n 1, 1) := by decide +kernel
theorem dX3_isImage_51 : decode cX3_isImage 51 = .ok (.iaload, 1) := by decide +kernel
theorem dX3_isImage_52 : decode cX3_isImage 52 = .ok (.iload 5, 2) := by decide +kernel
theorem dX3_isImage_54 : decode cX3_isImage 54 = .ok (.if_icmp .ne 18, 3) := by decide +kernel
theorem dX3_isImage_57 : decode cX3_isImage 57 = .ok (.aload_n 0, 1) := by decide +kernel
theorem dX3_isImage_58 : decode cX3_isImage 58 = .ok (.getfield 32, 3) := by decide +kernel
theorem dX3_isImage_61 : decode cX3_isImage 61 = .ok (.iload_n 1, 1) := by decide +kernel
theorem dX3_isImage_62 : decode cX3_isImage 62 = .ok (.iaload, 1) := by decide +kernel
theorem dX3_isImage_63 : decode cX3_isImage 63 = .ok (.iload 6, 2) := by decide +kernel
theorem dX3_isImage_65 : decode cX3_isImage 65 = .ok (.if_icmp .ne 7, 3) := by decide +kernel
theorem dX3_isImage_68 : decode cX3_isImage 68 = .ok (.iconst 1, 1) := by decide +kernel
theorem dX3_isImage_69 : decode cX3_isImage 69 = .ok (.goto 4, 3) := by decide +kernel
theorem dX3_isImage_72 : decode cX3_isImage 72 = .ok (.iconst 0, 1) := by decide +kernel
theorem dX3_isImage_73 : decode cX3_isImage 73 = .ok (.istore 7, 2) := by decide +kernel
theorem dX3_isImage_75 : decode cX3_isImage 75 = .ok (.iconst 0, 1) := by decide +kernel
theorem dX3_isImage_76 : decode cX3_isImage 76 = .ok (.istore 8, 2) := by decide +kernel
theorem dX3_isImage_78 : decode cX3_isImage 78 = .ok (.iload 8, 2) := by decide +kernel
theorem dX3_isImage_80 : decode cX3_isImage 80 = .ok (.iload 5, 2) := by decide +kernel
theorem dX3_isImage_82 : decode cX3_isImage 82 = .ok (.iload 6, 2) := by decide +kernel
theorem dX3_isImage_84 : decode cX3_isImage 84 = .ok (.imul, 1) := by decide +kernel
theorem dX3_isImage_85 : decode cX3_isImage 85 = .ok (.if_icmp .ge 57, 3) := by decide +kernel
theorem dX3_isImage_88 : decode cX3_isImage 88 = .ok (.iload 7, 2) := by decide +kernel
theorem dX3_isImage_90 : decode cX3_isImage 90 = .ok (.ifCond .eq 52, 3) := by decide +kernel
theorem dX3_isImage_93 : decode cX3_isImage 93 = .ok (.aload_n 0, 1) := by decide +kernel
theorem dX3_isImage_94 : decode cX3_isImage 94 = .ok (.iload_n 1, 1) := by decide +kernel
theorem dX3_isImage_95 : decode cX3_isImage 95 = .ok (.iload 8, 2) := by decide +kernel
theorem dX3_isImage_97 : decode cX3_isImage 97 = .ok (.iload 5, 2) := by decide +kernel
theorem dX3_isImage_99 : decode cX3_isImage 99 = .ok (.irem, 1) := by decide +kernel
theorem dX3_isImage_100 : decode cX3_isImage 100 = .ok (.iload 8, 2) := by decide +kernel
theorem dX3_isImage_102 : decode cX3_isImage 102 = .ok (.iload 5, 2) := by decide +kernel
theorem dX3_isImage_104 : decode cX3_isImage 104 = .ok (.idiv, 1) := by decide +kernel
theorem dX3_isImage_105 : decode cX3_isImage 105 = .ok (.invokevirtual 99, 3) := by decide +kernel
theorem dX3_isImage_108 : decode cX3_isImage 108 = .ok (.aload_n 0, 1) := by decide +kernel
theorem dX3_isImage_109 : decode cX3_isImage 109 = .ok (.iload_n 2, 1) := by decide +kernel
theorem dX3_isImage_110 : decode cX3_isImage 110 = .ok (.iload 8, 2) := by decide +kernel
theorem dX3_isImage_112 : decode cX3_isImage 112 = .ok (.iload 5, 2) := by decide +kernel
theorem dX3_isImage_114 : decode cX3_isImage 114 = .ok (.irem, 1) := by decide +kernel
theorem dX3_isImage_115 : decode cX3_isImage 115 = .ok (.iload 8, 2) := by decide +kernel
theorem dX3_isImage_117 : decode cX3_isImage 117 = .ok (.iload 5, 2) := by decide +kernel
theorem dX3_isImage_119 : decode cX3_isImage 119 = .ok (.idiv, 1) := by decide +kernel
theorem dX3_isImage_120 : decode cX3_isImage 120 = .ok (.iload_n 3, 1) := by decide +kernel
theorem dX3_isImage_121 : decode cX3_isImage 121 = .ok (.iload 4, 2) := by decide +kernel
theorem dX3_isImage_123 : decode cX3_isImage 123 = .ok (.invokevirtual 110, 3) := by decide +kernel
theorem dX3_isImage_126 : decode cX3_isImage 126 = .ok (.if_icmp .ne 7, 3) := by decide +kernel
theorem dX3_isImage_129 : decode cX3_isImage 129 = .ok (.iconst 1, 1) := by decide +kernel
theorem dX3_isImage_130 : decode cX3_isImage 130 = .ok (.goto 4, 3) := by decide +kernel
theorem dX3_isImage_133 : decode cX3_isImage 133 = .ok (.iconst 0, 1) := by decide +kernel
theorem dX3_isImage_134 : decode cX3_isImage 134 = .ok (.istore 7, 2) := by decide +kernel
theorem dX3_isImage_136 : decode cX3_isImage 136 = .ok (.iinc 8 1, 3) := by decide +kernel
theorem dX3_isImage_139 : decode cX3_isImage 139 = .ok (.goto (-61), 3) := by decide +kernel
theorem dX3_isImage_142 : decode cX3_isImage 142 = .ok (.iload 7, 2) := by decide +kernel
theorem dX3_isImage_144 : decode cX3_isImage 144 = .ok (.ireturn, 1) := by decide +kernel
set_option maxRecDepth 20000 in
theorem ggX3_pattern_X3_isPerson : GoodIn wsX3_pattern wsX3_isPerson := goodIn_r _ [14, 15, 16, 13, 17] (by decide +kernel) (by decide +kernel)
set_option maxRecDepth 20000 in
theorem gX3_pattern_X3_isPerson : GoodIn wsX3_pattern (va_wsS RX3 91 yX3_isPerson wsX3_isPerson) := goodIn_app (goodIn_of _ (by decide +kernel)) ggX3_pattern_X3_isPerson
set_option maxRecDepth 20000 in
theorem ggX3_pattern_X3_isImage : GoodIn wsX3_pattern wsX3_isImage := goodIn_r _ [21, 3, 5, 22, 23, 24, 13, 25, 8, 26, 27, 28, 29, 30, 31, 32, 33, 34, 35, 36, 37, 38, 39, 40, 41, 42, 43, 44, 45, 46, 47, 48, 49, 50, 51, 52, 53, 54, 55] (by decide +kernel) (by decide +kernel)
set_option maxRecDepth 20000 in
theorem gX3_pattern_X3_isImage : GoodIn wsX3_pattern (wsV RX3 114 RX3 yX3_isImage wsX3_isImage) := goodIn_app (goodIn_of _ (by decide +kernel)) ggX3_pattern_X3_isImage
theorem dX3_pattern_0 : decode cX3_pattern 0 = .ok (.aload_n 0, 1) := by decide +kernel
theorem dX3_pattern_1 : decode cX3_pattern 1 = .ok (.iload_n 1, 1) := by decide +kernel
theorem dX3_pattern_2 : decode cX3_pattern 2 = .ok (.invokestatic 91, 3) := by decide +kernel
theorem dX3_pattern_5 : decode cX3_pattern 5 = .ok (.ifCond .ne 7, 3) := by decide +kernel
theorem dX3_pattern_8 : decode cX3_pattern 8 = .ok (.iconst 1, 1) := by decide +kernel
theorem dX3_pattern_9 : decode cX3_pattern 9 = .ok (.goto 17, 3) := by decide +kernel
theorem dX3_pattern_12 : decode cX3_pattern 12 = .ok (.aload_n 0, 1) := by decide +kernel
theorem dX3_pattern_13 : decode cX3_pattern 13 = .ok (.getfield 88, 3) := by decide +kernel
theorem dX3_pattern_16 : decode cX3_pattern 16 = .ok (.bipush 12, 2) := by decide +kernel
theorem dX3_pattern_18 : decode cX3_pattern 18 = .ok (.if_icmp .ne 7, 3) := by decide +kernel
theorem dX3_pattern_21 : decode cX3_pattern 21 = .ok (.iconst 2, 1) := by decide +kernel
theorem dX3_pattern_22 : decode cX3_pattern 22 = .ok (.goto 4, 3) := by decide +kernel
theorem dX3_pattern_25 : decode cX3_pattern 25 = .ok (.iconst 0, 1) := by decide +kernel
theorem dX3_pattern_26 : decode cX3_pattern 26 = .ok (.putfield 81, 3) := by decide +kernel
theorem dX3_pattern_29 : decode cX3_pattern 29 = .ok (.aload_n 0, 1) := by decide +kernel
theorem dX3_pattern_30 : decode cX3_pattern 30 = .ok (.getfield 81, 3) := by decide +kernel
theorem dX3_pattern_33 : decode cX3_pattern 33 = .ok (.ifCond .le 5, 3) := by decide +kernel
theorem dX3_pattern_36 : decode cX3_pattern 36 = .ok (.iconst 0, 1) := by decide +kernel
theorem dX3_pattern_37 : decode cX3_pattern 37 = .ok (.ireturn, 1) := by decide +kernel
theorem dX3_pattern_38 : decode cX3_pattern 38 = .ok (.aload_n 0, 1) := by decide +kernel
theorem dX3_pattern_39 : decode cX3_pattern 39 = .ok (.getfield 88, 3) := by decide +kernel
theorem dX3_pattern_42 : decode cX3_pattern 42 = .ok (.istore_n 2, 1) := by decide +kernel
theorem dX3_pattern_43 : decode cX3_pattern 43 = .ok (.aload_n 0, 1) := by decide +kernel
theorem dX3_pattern_44 : decode cX3_pattern 44 = .ok (.getfield 29, 3) := by decide +kernel
theorem dX3_pattern_47 : decode cX3_pattern 47 = .ok (.iload_n 2, 1) := by decide +kernel
theorem dX3_pattern_48 : decode cX3_pattern 48 = .ok (.aload_n 0, 1) := by decide +kernel
theorem dX3_pattern_49 : decode cX3_pattern 49 = .ok (.getfield 19, 3) := by decide +kernel
theorem dX3_pattern_52 : decode cX3_pattern 52 = .ok (.iastore, 1) := by decide +kernel
theorem dX3_pattern_53 : decode cX3_pattern 53 = .ok (.aload_n 0, 1) := by decide +kernel
theorem dX3_pattern_54 : decode cX3_pattern 54 = .ok (.getfield 32, 3) := by decide +kernel
theorem dX3_pattern_57 : decode cX3_pattern 57 = .ok (.iload_n 2, 1) := by decide +kernel
theorem dX3_pattern_58 : decode cX3_pattern 58 = .ok (.aload_n 0, 1) := by decide +kernel
theorem dX3_pattern_59 : decode cX3_pattern 59 = .ok (.getfield 23, 3) := by decide +kernel
theorem dX3_pattern_62 : decode cX3_pattern 62 = .ok (.iastore, 1) := by decide +kernel
theorem dX3_pattern_63 : decode cX3_pattern 63 = .ok (.aload_n 0, 1) := by decide +kernel
theorem dX3_pattern_64 : decode cX3_pattern 64 = .ok (.getfield 38, 3) := by decide +kernel
theorem dX3_pattern_67 : decode cX3_pattern 67 = .ok (.iload_n 2, 1) := by decide +kernel
theorem dX3_pattern_68 : decode cX3_pattern 68 = .ok (.iload_n 1, 1) := by decide +kernel
theorem dX3_pattern_69 : decode cX3_pattern 69 = .ok (.iastore, 1) := by decide +kernel
theorem dX3_pattern_70 : decode cX3_pattern 70 = .ok (.iconst 0, 1) := by decide +kernel
theorem dX3_pattern_71 : decode cX3_pattern 71 = .ok (.istore_n 3, 1) := by decide +kernel
theorem dX3_pattern_72 : decode cX3_pattern 72 = .ok (.iload_n 3, 1) := by decide +kernel
theorem dX3_pattern_73 : decode cX3_pattern 73 = .ok (.bipush 48, 2) := by decide +kernel
theorem dX3_pattern_75 : decode cX3_pattern 75 = .ok (.if_icmp .ge 26, 3) := by decide +kernel
theorem dX3_pattern_78 : decode cX3_pattern 78 = .ok (.aload_n 0, 1) := by decide +kernel
theorem dX3_pattern_79 : decode cX3_pattern 79 = .ok (.getfield 35, 3) := by decide +kernel
theorem dX3_pattern_82 : decode cX3_pattern 82 = .ok (.bipush 48, 2) := by decide +kernel
theorem dX3_pattern_84 : decode cX3_pattern 84 = .ok (.iload_n 2, 1) := by decide +kernel
theorem dX3_pattern_85 : decode cX3_pattern 85 = .ok (.imul, 1) := by decide +kernel
theorem dX3_pattern_86 : decode cX3_pattern 86 = .ok (.iload_n 3, 1) := by decide +kernel
theorem dX3_pattern_87 : decode cX3_pattern 87 = .ok (.iadd, 1) := by decide +kernel
theorem dX3_pattern_88 : decode cX3_pattern 88 = .ok (.aload_n 0, 1) := by decide +kernel
theorem dX3_pattern_89 : decode cX3_pattern 89 = .ok (.getfield 26, 3) := by decide +kernel
theorem dX3_pattern_92 : decode cX3_pattern 92 = .ok (.iload_n 3, 1) := by decide +kernel
theorem dX3_pattern_93 : decode cX3_pattern 93 = .ok (.iaload, 1) := by decide +kernel
theorem dX3_pattern_94 : decode cX3_pattern 94 = .ok (.iastore, 1) := by decide +kernel
theorem dX3_pattern_95 : decode cX3_pattern 95 = .ok (.iinc 3 1, 3) := by decide +kernel
theorem dX3_pattern_98 : decode cX3_pattern 98 = .ok (.goto (-26), 3) := by decide +kernel
theorem dX3_pattern_101 : decode cX3_pattern 101 = .ok (.aload_n 0, 1) := by decide +kernel
theorem dX3_pattern_102 : decode cX3_pattern 102 = .ok (.dup, 1) := by decide +kernel
theorem dX3_pattern_103 : decode cX3_pattern 103 = .ok (.getfield 88, 3) := by decide +kernel
theorem dX3_pattern_106 : decode cX3_pattern 106 = .ok (.iconst 1, 1) := by decide +kernel
theorem dX3_pattern_107 : decode cX3_pattern 107 = .ok (.iadd, 1) := by decide +kernel
theorem dX3_pattern_108 : decode cX3_pattern 108 = .ok (.putfield 88, 3) := by decide +kernel
theorem dX3_pattern_111 : decode cX3_pattern 111 = .ok (.aload_n 0, 1) := by decide +kernel
theorem dX3_pattern_112 : decode cX3_pattern 112 = .ok (.getfield 41, 3) := by decide +kernel
theorem dX3_pattern_115 : decode cX3_pattern 115 = .ok (.iload_n 2, 1) := by decide +kernel
theorem dX3_pattern_116 : decode cX3_pattern 116 = .ok (.iload_n 2, 1) := by decide +kernel
theorem dX3_pattern_117 : decode cX3_pattern 117 = .ok (.iastore, 1) := by decide +kernel
theorem dX3_pattern_118 : decode cX3_pattern 118 = .ok (.iload_n 2, 1) := by decide +kernel
theorem dX3_pattern_119 : decode cX3_pattern 119 = .ok (.iconst 1, 1) := by decide +kernel
theorem dX3_pattern_120 : decode cX3_pattern 120 = .ok (.isub, 1) := by decide +kernel
theorem dX3_pattern_121 : decode cX3_pattern 121 = .ok (.istore_n 3, 1) := by decide +kernel
theorem dX3_pattern_122 : decode cX3_pattern 122 = .ok (.iload_n 3, 1) := by decide +kernel
theorem dX3_pattern_123 : decode cX3_pattern 123 = .ok (.ifCond .lt 65, 3) := by decide +kernel
theorem dX3_pattern_126 : decode cX3_pattern 126 = .ok (.iconst 0, 1) := by decide +kernel
theorem dX3_pattern_127 : decode cX3_pattern 127 = .ok (.istore 4, 2) := by decide +kernel
theorem dX3_pattern_129 : decode cX3_pattern 129 = .ok (.iload 4, 2) := by decide +kernel
theorem dX3_pattern_131 : decode cX3_pattern 131 = .ok (.bipush 8, 2) := by decide +kernel
theorem dX3_pattern_133 : decode cX3_pattern 133 = .ok (.if_icmp .ge 49, 3) := by decide +kernel
theorem dX3_pattern_136 : decode cX3_pattern 136 = .ok (.aload_n 0, 1) := by decide +kernel
theorem dX3_pattern_137 : decode cX3_pattern 137 = .ok (.getfield 41, 3) := by decide +kernel
theorem dX3_pattern_140 : decode cX3_pattern 140 = .ok (.iload_n 2, 1) := by decide +kernel
theorem dX3_pattern_141 : decode cX3_pattern 141 = .ok (.aload_n 0, 1) := by decide +kernel
theorem dX3_pattern_142 : decode cX3_pattern 142 = .ok (.iload_n 3, 1) := by decide +kernel
theorem dX3_pattern_143 : decode cX3_pattern 143 = .ok (.iload_n 2, 1) := by decide +kernel
theorem dX3_pattern_144 : decode cX3_pattern 144 = .ok (.iload 4, 2) := by decide +kernel
theorem dX3_pattern_146 : decode cX3_pattern 146 = .ok (.iconst 4, 1) := by decide +kernel
theorem dX3_pattern_147 : decode cX3_pattern 147 = .ok (.irem, 1) := by decide +kernel
theorem dX3_pattern_148 : decode cX3_pattern 148 = .ok (.iload 4, 2) := by decide +kernel
theorem dX3_pattern_150 : decode cX3_pattern 150 = .ok (.iconst 3, 1) := by decide +kernel
theorem dX3_pattern_151 : decode cX3_pattern 151 = .ok (.if_icmp .le 7, 3) := by decide +kernel
theorem dX3_pattern_154 : decode cX3_pattern 154 = .ok (.iconst 1, 1) := by decide +kernel
theorem dX3_pattern_155 : decode cX3_pattern 155 = .ok (.goto 4, 3) := by decide +kernel
theorem dX3_pattern_158 : decode cX3_pattern 158 = .ok (.iconst 0, 1) := by decide +kernel
theorem dX3_pattern_159 : decode cX3_pattern 159 = .ok (.invokevirtual 114, 3) := by decide +kernel
theorem dX3_pattern_162 : decode cX3_pattern 162 = .ok (.ifCond .eq 7, 3) := by decide +kernel
theorem dX3_pattern_165 : decode cX3_pattern 165 = .ok (.iload_n 3, 1) := by decide +kernel
theorem dX3_pattern_166 : decode cX3_pattern 166 = .ok (.goto 9, 3) := by decide +kernel
theorem dX3_pattern_169 : decode cX3_pattern 169 = .ok (.aload_n 0, 1) := by decide +kernel
theorem dX3_pattern_170 : decode cX3_pattern 170 = .ok (.getfield 41, 3) := by decide +kernel
theorem dX3_pattern_173 : decode cX3_pattern 173 = .ok (.iload_n 2, 1) := by decide +kernel
theorem dX3_pattern_174 : decode cX3_pattern 174 = .ok (.iaload, 1) := by decide +kernel
theorem dX3_pattern_175 : decode cX3_pattern 175 = .ok (.iastore, 1) := by decide +kernel
theorem dX3_pattern_176 : decode cX3_pattern 176 = .ok (.iinc 4 1, 3) := by decide +kernel
theorem dX3_pattern_179 : decode cX3_pattern 179 = .ok (.goto (-50), 3) := by decide +kernel
theorem dX3_pattern_182 : decode cX3_pattern 182 = .ok (.iinc 3 (-1), 3) := by decide +kernel
theorem dX3_pattern_185 : decode cX3_pattern 185 = .ok (.goto (-63), 3) := by decide +kernel
theorem dX3_pattern_188 : decode cX3_pattern 188 = .ok (.iload_n 2, 1) := by decide +kernel
theorem dX3_pattern_189 : decode cX3_pattern 189 = .ok (.ireturn, 1) := by decide +kernel
theorem dX3_patterns_0 : decode cX3_patterns 0 = .ok (.aload_n 0, 1) := by decide +kernel
theorem dX3_patterns_1 : decode cX3_patterns 1 = .ok (.iconst 0, 1) := by decide +kernel
theorem dX3_patterns_2 : decode cX3_patterns 2 = .ok (.putfield 81, 3) := by decide +kernel
theorem dX3_patterns_5 : decode cX3_patterns 5 = .ok (.aload_n 0, 1) := by decide +kernel
theorem dX3_patterns_6 : decode cX3_patterns 6 = .ok (.getfield 88, 3) := by decide +kernel
theorem dX3_patterns_9 : decode cX3_patterns 9 = .ok (.ireturn, 1) := by decide +kernel
set_option maxRecDepth 20000 in
theorem ggX3_asks_X3_isPattern : GoodIn wsX3_asks wsX3_isPattern := goodIn_r _ [6, 7, 8, 9, 5, 10, 11, 12, 13, 14, 15, 16, 17, 18, 19, 20, 21, 22, 23, 24, 25, 26, 27, 28, 29, 30, 31, 32, 33, 34, 35, 36] (by decide +kernel) (by decide +kernel)
set_option maxRecDepth 20000 in
theorem gX3_asks_X3_isPattern : GoodIn wsX3_asks (wsV RX3 118 RX3 yX3_isPattern wsX3_isPattern) := goodIn_app (goodIn_of _ (by decide +kernel)) ggX3_asks_X3_isPattern
theorem dX3_asks_0 : decode cX3_asks 0 = .ok (.aload_n 0, 1) := by decide +kernel
theorem dX3_asks_1 : decode cX3_asks 1 = .ok (.aload_n 0, 1) := by decide +kernel
theorem dX3_asks_2 : decode cX3_asks 2 = .ok (.iload_n 1, 1) := by decide +kernel
theorem dX3_asks_3 : decode cX3_asks 3 = .ok (.invokevirtual 118, 3) := by decide +kernel
theorem dX3_asks_6 : decode cX3_asks 6 = .ok (.ifCond .eq 7, 3) := by decide +kernel
theorem dX3_asks_9 : decode cX3_asks 9 = .ok (.iconst 0, 1) := by decide +kernel
theorem dX3_asks_10 : decode cX3_asks 10 = .ok (.goto 4, 3) := by decide +kernel
theorem dX3_asks_13 : decode cX3_asks 13 = .ok (.iconst 1, 1) := by decide +kernel
theorem dX3_asks_14 : decode cX3_asks 14 = .ok (.putfield 81, 3) := by decide +kernel
theorem dX3_asks_17 : decode cX3_asks 17 = .ok (.aload_n 0, 1) := by decide +kernel
theorem dX3_asks_18 : decode cX3_asks 18 = .ok (.getfield 81, 3) := by decide +kernel
theorem dX3_asks_21 : decode cX3_asks 21 = .ok (.ifCond .ne 7, 3) := by decide +kernel
theorem dX3_asks_24 : decode cX3_asks 24 = .ok (.iconst 1, 1) := by decide +kernel
theorem dX3_asks_25 : decode cX3_asks 25 = .ok (.goto 4, 3) := by decide +kernel
theorem dX3_asks_28 : decode cX3_asks 28 = .ok (.iconst 0, 1) := by decide +kernel
theorem dX3_asks_29 : decode cX3_asks 29 = .ok (.ireturn, 1) := by decide +kernel
set_option maxRecDepth 20000 in
theorem ggX3_symmetries_X3_asks : GoodIn wsX3_symmetries wsX3_asks := goodIn_r _ [5, 6, 7, 8, 9, 4, 10, 11, 12, 13, 14, 30, 31, 32, 33, 34, 35, 36, 37, 38, 39, 40, 41, 42, 43, 44, 45, 46, 47, 48, 49, 50, 51, 52, 53, 54, 55] (by decide +kernel) (by decide +kernel)
set_option maxRecDepth 20000 in
theorem gX3_symmetries_X3_asks : GoodIn wsX3_symmetries (wsV RX3 121 RX3 yX3_asks wsX3_asks) := goodIn_app (goodIn_of _ (by decide +kernel)) ggX3_symmetries_X3_asks
set_option maxRecDepth 20000 in
theorem ggX3_symmetries_X3_isImage : GoodIn wsX3_symmetries wsX3_isImage := goodIn_r _ [18, 19, 20, 21, 22, 23, 4, 24, 25, 26, 27, 28, 29, 30, 31, 32, 33, 34, 35, 36, 37, 38, 39, 40, 41, 42, 43, 44, 45, 46, 47, 48, 49, 50, 51, 52, 53, 54, 55] (by decide +kernel) (by decide +kernel)
set_option maxRecDepth 20000 in
theorem gX3_symmetries_X3_isImage : GoodIn wsX3_symmetries (wsV RX3 114 RX3 yX3_isImage wsX3_isImage) := goodIn_app (goodIn_of _ (by decide +kernel)) ggX3_symmetries_X3_isImage
theorem dX3_symmetries_0 : decode cX3_symmetries 0 = .ok (.aload_n 0, 1) := by decide +kernel
theorem dX3_symmetries_1 : decode cX3_symmetries 1 = .ok (.iload_n 1, 1) := by decide +kernel
theorem dX3_symmetries_2 : decode cX3_symmetries 2 = .ok (.invokevirtual 121, 3) := by decide +kernel
theorem dX3_symmetries_5 : decode cX3_symmetries 5 = .ok (.ifCond .ne 5, 3) := by decide +kernel
theorem dX3_symmetries_8 : decode cX3_symmetries 8 = .ok (.iconst 0, 1) := by decide +kernel
theorem dX3_symmetries_9 : decode cX3_symmetries 9 = .ok (.ireturn, 1) := by decide +kernel
theorem dX3_symmetries_10 : decode cX3_symmetries 10 = .ok (.aload_n 0, 1) := by decide +kernel
theorem dX3_symmetries_11 : decode cX3_symmetries 11 = .ok (.iload_n 1, 1) := by decide +kernel
theorem dX3_symmetries_12 : decode cX3_symmetries 12 = .ok (.iload_n 1, 1) := by decide +kernel
theorem dX3_symmetries_13 : decode cX3_symmetries 13 = .ok (.iconst 0, 1) := by decide +kernel
theorem dX3_symmetries_14 : decode cX3_symmetries 14 = .ok (.iconst 1, 1) := by decide +kernel
theorem dX3_symmetries_15 : decode cX3_symmetries 15 = .ok (.invokevirtual 114, 3) := by decide +kernel
theorem dX3_symmetries_18 : decode cX3_symmetries 18 = .ok (.ifCond .eq 7, 3) := by decide +kernel
theorem dX3_symmetries_21 : decode cX3_symmetries 21 = .ok (.iconst 1, 1) := by decide +kernel
theorem dX3_symmetries_22 : decode cX3_symmetries 22 = .ok (.goto 4, 3) := by decide +kernel
theorem dX3_symmetries_25 : decode cX3_symmetries 25 = .ok (.iconst 0, 1) := by decide +kernel
theorem dX3_symmetries_26 : decode cX3_symmetries 26 = .ok (.istore_n 2, 1) := by decide +kernel
theorem dX3_symmetries_27 : decode cX3_symmetries 27 = .ok (.iload_n 2, 1) := by decide +kernel
theorem dX3_symmetries_28 : decode cX3_symmetries 28 = .ok (.aload_n 0, 1) := by decide +kernel
theorem dX3_symmetries_29 : decode cX3_symmetries 29 = .ok (.iload_n 1, 1) := by decide +kernel
theorem dX3_symmetries_30 : decode cX3_symmetries 30 = .ok (.iload_n 1, 1) := by decide +kernel
theorem dX3_symmetries_31 : decode cX3_symmetries 31 = .ok (.iconst 2, 1) := by decide +kernel
theorem dX3_symmetries_32 : decode cX3_symmetries 32 = .ok (.iconst 1, 1) := by decide +kernel
theorem dX3_symmetries_33 : decode cX3_symmetries 33 = .ok (.invokevirtual 114, 3) := by decide +kernel
theorem dX3_symmetries_36 : decode cX3_symmetries 36 = .ok (.ifCond .eq 7, 3) := by decide +kernel
theorem dX3_symmetries_39 : decode cX3_symmetries 39 = .ok (.iconst 2, 1) := by decide +kernel
theorem dX3_symmetries_40 : decode cX3_symmetries 40 = .ok (.goto 4, 3) := by decide +kernel
theorem dX3_symmetries_43 : decode cX3_symmetries 43 = .ok (.iconst 0, 1) := by decide +kernel
theorem dX3_symmetries_44 : decode cX3_symmetries 44 = .ok (.iadd, 1) := by decide +kernel
theorem dX3_symmetries_45 : decode cX3_symmetries 45 = .ok (.istore_n 2, 1) := by decide +kernel
theorem dX3_symmetries_46 : decode cX3_symmetries 46 = .ok (.iload_n 2, 1) := by decide +kernel
theorem dX3_symmetries_47 : decode cX3_symmetries 47 = .ok (.aload_n 0, 1) := by decide +kernel
theorem dX3_symmetries_48 : decode cX3_symmetries 48 = .ok (.iload_n 1, 1) := by decide +kernel
theorem dX3_symmetries_49 : decode cX3_symmetries 49 = .ok (.iload_n 1, 1) := by decide +kernel
theorem dX3_symmetries_50 : decode cX3_symmetries 50 = .ok (.iconst 2, 1) := by decide +kernel
theorem dX3_symmetries_51 : decode cX3_symmetries 51 = .ok (.iconst 0, 1) := by decide +kernel
theorem dX3_symmetries_52 : decode cX3_symmetries 52 = .ok (.invokevirtual 114, 3) := by decide +kernel
theorem dX3_symmetries_55 : decode cX3_symmetries 55 = .ok (.ifCond .eq 7, 3) := by decide +kernel
theorem dX3_symmetries_58 : decode cX3_symmetries 58 = .ok (.iconst 4, 1) := by decide +kernel
theorem dX3_symmetries_59 : decode cX3_symmetries 59 = .ok (.goto 4, 3) := by decide +kernel
theorem dX3_symmetries_62 : decode cX3_symmetries 62 = .ok (.iconst 0, 1) := by decide +kernel
theorem dX3_symmetries_63 : decode cX3_symmetries 63 = .ok (.iadd, 1) := by decide +kernel
theorem dX3_symmetries_64 : decode cX3_symmetries 64 = .ok (.istore_n 2, 1) := by decide +kernel
theorem dX3_symmetries_65 : decode cX3_symmetries 65 = .ok (.iload_n 2, 1) := by decide +kernel
theorem dX3_symmetries_66 : decode cX3_symmetries 66 = .ok (.aload_n 0, 1) := by decide +kernel
theorem dX3_symmetries_67 : decode cX3_symmetries 67 = .ok (.iload_n 1, 1) := by decide +kernel
theorem dX3_symmetries_68 : decode cX3_symmetries 68 = .ok (.iload_n 1, 1) := by decide +kernel
theorem dX3_symmetries_69 : decode cX3_symmetries 69 = .ok (.iconst 1, 1) := by decide +kernel
theorem dX3_symmetries_70 : decode cX3_symmetries 70 = .ok (.iconst 0, 1) := by decide +kernel
theorem dX3_symmetries_71 : decode cX3_symmetries 71 = .ok (.invokevirtual 114, 3) := by decide +kernel
theorem dX3_symmetries_74 : decode cX3_symmetries 74 = .ok (.ifCond .eq 8, 3) := by decide +kernel
theorem dX3_symmetries_77 : decode cX3_symmetries 77 = .ok (.bipush 8, 2) := by decide +kernel
theorem dX3_symmetries_79 : decode cX3_symmetries 79 = .ok (.goto 4, 3) := by decide +kernel
theorem dX3_symmetries_82 : decode cX3_symmetries 82 = .ok (.iconst 0, 1) := by decide +kernel
theorem dX3_symmetries_83 : decode cX3_symmetries 83 = .ok (.iadd, 1) := by decide +kernel
theorem dX3_symmetries_84 : decode cX3_symmetries 84 = .ok (.ireturn, 1) := by decide +kernel
set_option maxRecDepth 20000 in
theorem ggX3_origin_X3_asks : GoodIn wsX3_origin wsX3_asks := goodIn_r _ [6, 7, 8, 9, 10, 5, 11, 12, 13, 14, 15, 16, 17, 18, 19, 20, 21, 22, 23, 24, 25, 26, 27, 28, 29, 30, 31, 32, 33, 34, 35, 36, 37, 38, 39, 40, 41] (by decide +kernel) (by decide +kernel)
set_option maxRecDepth 20000 in
theorem gX3_origin_X3_asks : GoodIn wsX3_origin (wsV RX3 121 RX3 yX3_asks wsX3_asks) := goodIn_app (goodIn_of _ (by decide +kernel)) ggX3_origin_X3_asks
theorem dX3_origin_0 : decode cX3_origin 0 = .ok (.aload_n 0, 1) := by decide +kernel
theorem dX3_origin_1 : decode cX3_origin 1 = .ok (.iload_n 1, 1) := by decide +kernel
theorem dX3_origin_2 : decode cX3_origin 2 = .ok (.invokevirtual 121, 3) := by decide +kernel
theorem dX3_origin_5 : decode cX3_origin 5 = .ok (.ifCond .eq 12, 3) := by decide +kernel
theorem dX3_origin_8 : decode cX3_origin 8 = .ok (.aload_n 0, 1) := by decide +kernel
theorem dX3_origin_9 : decode cX3_origin 9 = .ok (.getfield 41, 3) := by decide +kernel
theorem dX3_origin_12 : decode cX3_origin 12 = .ok (.iload_n 1, 1) := by decide +kernel
theorem dX3_origin_13 : decode cX3_origin 13 = .ok (.iaload, 1) := by decide +kernel
theorem dX3_origin_14 : decode cX3_origin 14 = .ok (.goto 4, 3) := by decide +kernel
theorem dX3_origin_17 : decode cX3_origin 17 = .ok (.iconst 0, 1) := by decide +kernel
theorem dX3_origin_18 : decode cX3_origin 18 = .ok (.ireturn, 1) := by decide +kernel
set_option maxRecDepth 20000 in
theorem ggX3_needs_X3_isPattern : GoodIn wsX3_needs wsX3_isPattern := goodIn_r _ [6, 7, 8, 9, 5, 10, 25, 26, 27, 28, 29, 30, 31, 32, 33, 34, 35, 36, 37, 38, 39, 40, 41, 42, 43, 44, 45, 46, 47, 48, 49, 50] (by decide +kernel) (by decide +kernel)
set_option maxRecDepth 20000 in
theorem gX3_needs_X3_isPattern : GoodIn wsX3_needs (wsV RX3 118 RX3 yX3_isPattern wsX3_isPattern) := goodIn_app (goodIn_of _ (by decide +kernel)) ggX3_needs_X3_isPattern
set_option maxRecDepth 20000 in
theorem ggX3_needs_X3_isColour : GoodIn wsX3_needs wsX3_isColour := goodIn_r _ [13, 8, 9, 5, 10] (by decide +kernel) (by decide +kernel)
set_option maxRecDepth 20000 in
theorem gX3_needs_X3_isColour : GoodIn wsX3_needs (va_wsS RX3 95 yX3_isColour wsX3_isColour) := goodIn_app (goodIn_of _ (by decide +kernel)) ggX3_needs_X3_isColour
set_option maxRecDepth 20000 in
theorem ggX3_needs_X3_needsOf : GoodIn wsX3_needs wsX3_needsOf := goodIn_r _ [17, 18, 19, 20, 21, 22, 5, 23, 24, 25, 26, 27, 28, 29, 30, 31, 32, 33, 34, 35, 36, 37, 38, 39, 40, 41, 42, 43, 44, 45, 46, 47, 48, 49, 50] (by decide +kernel) (by decide +kernel)
set_option maxRecDepth 20000 in
theorem gX3_needs_X3_needsOf : GoodIn wsX3_needs (wsV RX3 106 RX3 yX3_needsOf wsX3_needsOf) := goodIn_app (goodIn_of _ (by decide +kernel)) ggX3_needs_X3_needsOf
theorem dX3_needs_0 : decode cX3_needs 0 = .ok (.aload_n 0, 1) := by decide +kernel
theorem dX3_needs_1 : decode cX3_needs 1 = .ok (.aload_n 0, 1) := by decide +kernel
theorem dX3_needs_2 : decode cX3_needs 2 = .ok (.iload_n 1, 1) := by decide +kernel
theorem dX3_needs_3 : decode cX3_needs 3 = .ok (.invokevirtual 118, 3) := by decide +kernel
theorem dX3_needs_6 : decode cX3_needs 6 = .ok (.ifCond .eq 14, 3) := by decide +kernel
theorem dX3_needs_9 : decode cX3_needs 9 = .ok (.iload_n 2, 1) := by decide +kernel
theorem dX3_needs_10 : decode cX3_needs 10 = .ok (.invokestatic 95, 3) := by decide +kernel
theorem dX3_needs_13 : decode cX3_needs 13 = .ok (.ifCond .eq 7, 3) := by decide +kernel
theorem dX3_needs_16 : decode cX3_needs 16 = .ok (.iconst 0, 1) := by decide +kernel
theorem dX3_needs_17 : decode cX3_needs 17 = .ok (.goto 4, 3) := by decide +kernel
theorem dX3_needs_20 : decode cX3_needs 20 = .ok (.iconst 1, 1) := by decide +kernel
theorem dX3_needs_21 : decode cX3_needs 21 = .ok (.putfield 81, 3) := by decide +kernel
theorem dX3_needs_24 : decode cX3_needs 24 = .ok (.aload_n 0, 1) := by decide +kernel
theorem dX3_needs_25 : decode cX3_needs 25 = .ok (.getfield 81, 3) := by decide +kernel
theorem dX3_needs_28 : decode cX3_needs 28 = .ok (.ifCond .le 7, 3) := by decide +kernel
theorem dX3_needs_31 : decode cX3_needs 31 = .ok (.iconst 0, 1) := by decide +kernel
theorem dX3_needs_32 : decode cX3_needs 32 = .ok (.goto 9, 3) := by decide +kernel
theorem dX3_needs_35 : decode cX3_needs 35 = .ok (.aload_n 0, 1) := by decide +kernel
theorem dX3_needs_36 : decode cX3_needs 36 = .ok (.iload_n 1, 1) := by decide +kernel
theorem dX3_needs_37 : decode cX3_needs 37 = .ok (.iload_n 2, 1) := by decide +kernel
theorem dX3_needs_38 : decode cX3_needs 38 = .ok (.invokevirtual 106, 3) := by decide +kernel
theorem dX3_needs_41 : decode cX3_needs 41 = .ok (.ireturn, 1) := by decide +kernel
theorem dX3_freeBelt_0 : decode cX3_freeBelt 0 = .ok (.iconst 0, 1) := by decide +kernel
theorem dX3_freeBelt_1 : decode cX3_freeBelt 1 = .ok (.istore_n 1, 1) := by decide +kernel
theorem dX3_freeBelt_2 : decode cX3_freeBelt 2 = .ok (.iload_n 1, 1) := by decide +kernel
theorem dX3_freeBelt_3 : decode cX3_freeBelt 3 = .ok (.bipush 20, 2) := by decide +kernel
theorem dX3_freeBelt_5 : decode cX3_freeBelt 5 = .ok (.if_icmp .ge 19, 3) := by decide +kernel
theorem dX3_freeBelt_8 : decode cX3_freeBelt 8 = .ok (.aload_n 0, 1) := by decide +kernel
theorem dX3_freeBelt_9 : decode cX3_freeBelt 9 = .ok (.getfield 44, 3) := by decide +kernel
theorem dX3_freeBelt_12 : decode cX3_freeBelt 12 = .ok (.iload_n 1, 1) := by decide +kernel
theorem dX3_freeBelt_13 : decode cX3_freeBelt 13 = .ok (.iaload, 1) := by decide +kernel
theorem dX3_freeBelt_14 : decode cX3_freeBelt 14 = .ok (.iconst (-1), 1) := by decide +kernel
theorem dX3_freeBelt_15 : decode cX3_freeBelt 15 = .ok (.if_icmp .eq 9, 3) := by decide +kernel
theorem dX3_freeBelt_18 : decode cX3_freeBelt 18 = .ok (.iinc 1 1, 3) := by decide +kernel
theorem dX3_freeBelt_21 : decode cX3_freeBelt 21 = .ok (.goto (-19), 3) := by decide +kernel
theorem dX3_freeBelt_24 : decode cX3_freeBelt 24 = .ok (.iload_n 1, 1) := by decide +kernel
theorem dX3_freeBelt_25 : decode cX3_freeBelt 25 = .ok (.ireturn, 1) := by decide +kernel
set_option maxRecDepth 20000 in
theorem ggX3_weave_X3_isPerson : GoodIn wsX3_weave wsX3_isPerson := goodIn_r _ [11, 12, 13, 10, 14] (by decide +kernel) (by decide +kernel)
set_option maxRecDepth 20000 in
theorem gX3_weave_X3_isPerson : GoodIn wsX3_weave (va_wsS RX3 91 yX3_isPerson wsX3_isPerson) := goodIn_app (goodIn_of _ (by decide +kernel)) ggX3_weave_X3_isPerson
set_option maxRecDepth 20000 in
theorem ggX3_weave_X3_isPattern : GoodIn wsX3_weave wsX3_isPattern := goodIn_r _ [18, 19, 12, 13, 10, 14, 35, 36, 37, 38, 39, 40, 41, 42, 43, 44, 45, 46, 47, 48, 49, 50, 51, 52, 53, 54, 55, 56, 57, 58, 59, 60] (by decide +kernel) (by decide +kernel)
set_option maxRecDepth 20000 in
theorem gX3_weave_X3_isPattern : GoodIn wsX3_weave (wsV RX3 118 RX3 yX3_isPattern wsX3_isPattern) := goodIn_app (goodIn_of _ (by decide +kernel)) ggX3_weave_X3_isPattern
set_option maxRecDepth 20000 in
theorem ggX3_weave_X3_freeBelt : GoodIn wsX3_weave wsX3_freeBelt := goodIn_r _ [23, 3, 35, 36, 37, 38, 39, 40, 41, 42, 43, 44, 45, 46, 47, 48, 49, 50, 51, 52, 53, 54, 55, 56, 57, 58, 59, 60] (by decide +kernel) (by decide +kernel)
set_option maxRecDepth 20000 in
theorem gX3_weave_X3_freeBelt : GoodIn wsX3_weave (wsV RX3 124 RX3 yX3_freeBelt wsX3_freeBelt) := goodIn_app (goodIn_of _ (by decide +kernel)) ggX3_weave_X3_freeBelt
set_option maxRecDepth 20000 in
theorem ggX3_weave_X3_needsOf : GoodIn wsX3_weave wsX3_needsOf := goodIn_r _ [27, 28, 29, 30, 31, 32, 10, 33, 34, 35, 36, 37, 38, 39, 40, 41, 42, 43, 44, 45, 46, 47, 48, 49, 50, 51, 52, 53, 54, 55, 56, 57, 58, 59, 60] (by decide +kernel) (by decide +kernel)
set_option maxRecDepth 20000 in
theorem gX3_weave_X3_needsOf : GoodIn wsX3_weave (wsV RX3 106 RX3 yX3_needsOf wsX3_needsOf) := goodIn_app (goodIn_of _ (by decide +kernel)) ggX3_weave_X3_needsOf
theorem dX3_weave_0 : decode cX3_weave 0 = .ok (.aload_n 0, 1) := by decide +kernel
theorem dX3_weave_1 : decode cX3_weave 1 = .ok (.iload_n 1, 1) := by decide +kernel
theorem dX3_weave_2 : decode cX3_weave 2 = .ok (.invokestatic 91, 3) := by decide +kernel
theorem dX3_weave_5 : decode cX3_weave 5 = .ok (.ifCond .eq 15, 3) := by decide +kernel
theorem dX3_weave_8 : decode cX3_weave 8 = .ok (.aload_n 0, 1) := by decide +kernel
theorem dX3_weave_9 : decode cX3_weave 9 = .ok (.iload_n 2, 1) := by decide +kernel
theorem dX3_weave_10 : decode cX3_weave 10 = .ok (.invokevirtual 118, 3) := by decide +kernel
theorem dX3_weave_13 : decode cX3_weave 13 = .ok (.ifCond .eq 7, 3) := by decide +kernel
theorem dX3_weave_16 : decode cX3_weave 16 = .ok (.iconst 0, 1) := by decide +kernel
theorem dX3_weave_17 : decode cX3_weave 17 = .ok (.goto 4, 3) := by decide +kernel
theorem dX3_weave_20 : decode cX3_weave 20 = .ok (.iconst 1, 1) := by decide +kernel
theorem dX3_weave_21 : decode cX3_weave 21 = .ok (.putfield 81, 3) := by decide +kernel
theorem dX3_weave_24 : decode cX3_weave 24 = .ok (.aload_n 0, 1) := by decide +kernel
theorem dX3_weave_25 : decode cX3_weave 25 = .ok (.getfield 81, 3) := by decide +kernel
theorem dX3_weave_28 : decode cX3_weave 28 = .ok (.ifCond .le 5, 3) := by decide +kernel
theorem dX3_weave_31 : decode cX3_weave 31 = .ok (.iconst 0, 1) := by decide +kernel
theorem dX3_weave_32 : decode cX3_weave 32 = .ok (.ireturn, 1) := by decide +kernel
theorem dX3_weave_33 : decode cX3_weave 33 = .ok (.aload_n 0, 1) := by decide +kernel
theorem dX3_weave_34 : decode cX3_weave 34 = .ok (.invokevirtual 124, 3) := by decide +kernel
theorem dX3_weave_37 : decode cX3_weave 37 = .ok (.bipush 20, 2) := by decide +kernel
theorem dX3_weave_39 : decode cX3_weave 39 = .ok (.if_icmp .ge 7, 3) := by decide +kernel
theorem dX3_weave_42 : decode cX3_weave 42 = .ok (.iconst 1, 1) := by decide +kernel
theorem dX3_weave_43 : decode cX3_weave 43 = .ok (.goto 4, 3) := by decide +kernel
theorem dX3_weave_46 : decode cX3_weave 46 = .ok (.iconst 0, 1) := by decide +kernel
theorem dX3_weave_47 : decode cX3_weave 47 = .ok (.istore_n 3, 1) := by decide +kernel
theorem dX3_weave_48 : decode cX3_weave 48 = .ok (.iconst 0, 1) := by decide +kernel
theorem dX3_weave_49 : decode cX3_weave 49 = .ok (.istore 4, 2) := by decide +kernel
theorem dX3_weave_51 : decode cX3_weave 51 = .ok (.iload 4, 2) := by decide +kernel
theorem dX3_weave_53 : decode cX3_weave 53 = .ok (.bipush 8, 2) := by decide +kernel
theorem dX3_weave_55 : decode cX3_weave 55 = .ok (.if_icmp .ge 41, 3) := by decide +kernel
theorem dX3_weave_58 : decode cX3_weave 58 = .ok (.iload_n 3, 1) := by decide +kernel
theorem dX3_weave_59 : decode cX3_weave 59 = .ok (.ifCond .eq 29, 3) := by decide +kernel
theorem dX3_weave_62 : decode cX3_weave 62 = .ok (.aload_n 0, 1) := by decide +kernel
theorem dX3_weave_63 : decode cX3_weave 63 = .ok (.getfield 7, 3) := by decide +kernel
theorem dX3_weave_66 : decode cX3_weave 66 = .ok (.bipush 8, 2) := by decide +kernel
theorem dX3_weave_68 : decode cX3_weave 68 = .ok (.iload_n 1, 1) := by decide +kernel
theorem dX3_weave_69 : decode cX3_weave 69 = .ok (.imul, 1) := by decide +kernel
theorem dX3_weave_70 : decode cX3_weave 70 = .ok (.iload 4, 2) := by decide +kernel
theorem dX3_weave_72 : decode cX3_weave 72 = .ok (.iadd, 1) := by decide +kernel
theorem dX3_weave_73 : decode cX3_weave 73 = .ok (.iaload, 1) := by decide +kernel
theorem dX3_weave_74 : decode cX3_weave 74 = .ok (.aload_n 0, 1) := by decide +kernel
theorem dX3_weave_75 : decode cX3_weave 75 = .ok (.iload_n 2, 1) := by decide +kernel
theorem dX3_weave_76 : decode cX3_weave 76 = .ok (.iload 4, 2) := by decide +kernel
theorem dX3_weave_78 : decode cX3_weave 78 = .ok (.invokevirtual 106, 3) := by decide +kernel
theorem dX3_weave_81 : decode cX3_weave 81 = .ok (.if_icmp .lt 7, 3) := by decide +kernel
theorem dX3_weave_84 : decode cX3_weave 84 = .ok (.iconst 1, 1) := by decide +kernel
theorem dX3_weave_85 : decode cX3_weave 85 = .ok (.goto 4, 3) := by decide +kernel
theorem dX3_weave_88 : decode cX3_weave 88 = .ok (.iconst 0, 1) := by decide +kernel
theorem dX3_weave_89 : decode cX3_weave 89 = .ok (.istore_n 3, 1) := by decide +kernel
theorem dX3_weave_90 : decode cX3_weave 90 = .ok (.iinc 4 1, 3) := by decide +kernel
theorem dX3_weave_93 : decode cX3_weave 93 = .ok (.goto (-42), 3) := by decide +kernel
theorem dX3_weave_96 : decode cX3_weave 96 = .ok (.aload_n 0, 1) := by decide +kernel
theorem dX3_weave_97 : decode cX3_weave 97 = .ok (.iload_n 3, 1) := by decide +kernel
theorem dX3_weave_98 : decode cX3_weave 98 = .ok (.ifCond .eq 7, 3) := by decide +kernel
theorem dX3_weave_101 : decode cX3_weave 101 = .ok (.iconst 0, 1) := by decide +kernel
theorem dX3_weave_102 : decode cX3_weave 102 = .ok (.goto 4, 3) := by decide +kernel
theorem dX3_weave_105 : decode cX3_weave 105 = .ok (.iconst 2, 1) := by decide +kernel
theorem dX3_weave_106 : decode cX3_weave 106 = .ok (.putfield 81, 3) := by decide +kernel
theorem dX3_weave_109 : decode cX3_weave 109 = .ok (.aload_n 0, 1) := by decide +kernel
theorem dX3_weave_110 : decode cX3_weave 110 = .ok (.getfield 81, 3) := by decide +kernel
theorem dX3_weave_113 : decode cX3_weave 113 = .ok (.ifCond .le 5, 3) := by decide +kernel
theorem dX3_weave_116 : decode cX3_weave 116 = .ok (.iconst 0, 1) := by decide +kernel
theorem dX3_weave_117 : decode cX3_weave 117 = .ok (.ireturn, 1) := by decide +kernel
theorem dX3_weave_118 : decode cX3_weave 118 = .ok (.aload_n 0, 1) := by decide +kernel
theorem dX3_weave_119 : decode cX3_weave 119 = .ok (.invokevirtual 124, 3) := by decide +kernel
theorem dX3_weave_122 : decode cX3_weave 122 = .ok (.istore 4, 2) := by decide +kernel
theorem dX3_weave_124 : decode cX3_weave 124 = .ok (.aload_n 0, 1) := by decide +kernel
theorem dX3_weave_125 : decode cX3_weave 125 = .ok (.getfield 44, 3) := by decide +kernel
theorem dX3_weave_128 : decode cX3_weave 128 = .ok (.iload 4, 2) := by decide +kernel
theorem dX3_weave_130 : decode cX3_weave 130 = .ok (.iload_n 2, 1) := by decide +kernel
theorem dX3_weave_131 : decode cX3_weave 131 = .ok (.iastore, 1) := by decide +kernel
theorem dX3_weave_132 : decode cX3_weave 132 = .ok (.aload_n 0, 1) := by decide +kernel
theorem dX3_weave_133 : decode cX3_weave 133 = .ok (.getfield 47, 3) := by decide +kernel
theorem dX3_weave_136 : decode cX3_weave 136 = .ok (.iload 4, 2) := by decide +kernel
theorem dX3_weave_138 : decode cX3_weave 138 = .ok (.iload_n 1, 1) := by decide +kernel
theorem dX3_weave_139 : decode cX3_weave 139 = .ok (.iastore, 1) := by decide +kernel
theorem dX3_weave_140 : decode cX3_weave 140 = .ok (.iconst 0, 1) := by decide +kernel
theorem dX3_weave_141 : decode cX3_weave 141 = .ok (.istore 5, 2) := by decide +kernel
theorem dX3_weave_143 : decode cX3_weave 143 = .ok (.iload 5, 2) := by decide +kernel
theorem dX3_weave_145 : decode cX3_weave 145 = .ok (.bipush 8, 2) := by decide +kernel
theorem dX3_weave_147 : decode cX3_weave 147 = .ok (.if_icmp .ge 31, 3) := by decide +kernel
theorem dX3_weave_150 : decode cX3_weave 150 = .ok (.aload_n 0, 1) := by decide +kernel
theorem dX3_weave_151 : decode cX3_weave 151 = .ok (.getfield 7, 3) := by decide +kernel
theorem dX3_weave_154 : decode cX3_weave 154 = .ok (.bipush 8, 2) := by decide +kernel
theorem dX3_weave_156 : decode cX3_weave 156 = .ok (.iload_n 1, 1) := by decide +kernel
theorem dX3_weave_157 : decode cX3_weave 157 = .ok (.imul, 1) := by decide +kernel
theorem dX3_weave_158 : decode cX3_weave 158 = .ok (.iload 5, 2) := by decide +kernel
theorem dX3_weave_160 : decode cX3_weave 160 = .ok (.iadd, 1) := by decide +kernel
theorem dX3_weave_161 : decode cX3_weave 161 = .ok (.dup2, 1) := by decide +kernel
theorem dX3_weave_162 : decode cX3_weave 162 = .ok (.iaload, 1) := by decide +kernel
theorem dX3_weave_163 : decode cX3_weave 163 = .ok (.aload_n 0, 1) := by decide +kernel
theorem dX3_weave_164 : decode cX3_weave 164 = .ok (.iload_n 2, 1) := by decide +kernel
theorem dX3_weave_165 : decode cX3_weave 165 = .ok (.iload 5, 2) := by decide +kernel
theorem dX3_weave_167 : decode cX3_weave 167 = .ok (.invokevirtual 106, 3) := by decide +kernel
theorem dX3_weave_170 : decode cX3_weave 170 = .ok (.isub, 1) := by decide +kernel
theorem dX3_weave_171 : decode cX3_weave 171 = .ok (.iastore, 1) := by decide +kernel
theorem dX3_weave_172 : decode cX3_weave 172 = .ok (.iinc 5 1, 3) := by decide +kernel
theorem dX3_weave_175 : decode cX3_weave 175 = .ok (.goto (-32), 3) := by decide +kernel
theorem dX3_weave_178 : decode cX3_weave 178 = .ok (.aload_n 0, 1) := by decide +kernel
theorem dX3_weave_179 : decode cX3_weave 179 = .ok (.getfield 50, 3) := by decide +kernel
theorem dX3_weave_182 : decode cX3_weave 182 = .ok (.aload_n 0, 1) := by decide +kernel
theorem dX3_weave_183 : decode cX3_weave 183 = .ok (.getfield 38, 3) := by decide +kernel
theorem dX3_weave_186 : decode cX3_weave 186 = .ok (.aload_n 0, 1) := by decide +kernel
theorem dX3_weave_187 : decode cX3_weave 187 = .ok (.getfield 41, 3) := by decide +kernel
theorem dX3_weave_190 : decode cX3_weave 190 = .ok (.iload_n 2, 1) := by decide +kernel
theorem dX3_weave_191 : decode cX3_weave 191 = .ok (.iaload, 1) := by decide +kernel
theorem dX3_weave_192 : decode cX3_weave 192 = .ok (.iaload, 1) := by decide +kernel
theorem dX3_weave_193 : decode cX3_weave 193 = .ok (.dup2, 1) := by decide +kernel
theorem dX3_weave_194 : decode cX3_weave 194 = .ok (.iaload, 1) := by decide +kernel
theorem dX3_weave_195 : decode cX3_weave 195 = .ok (.iconst 1, 1) := by decide +kernel
theorem dX3_weave_196 : decode cX3_weave 196 = .ok (.iadd, 1) := by decide +kernel
theorem dX3_weave_197 : decode cX3_weave 197 = .ok (.iastore, 1) := by decide +kernel
theorem dX3_weave_198 : decode cX3_weave 198 = .ok (.iload 4, 2) := by decide +kernel
theorem dX3_weave_200 : decode cX3_weave 200 = .ok (.ireturn, 1) := by decide +kernel
set_option maxRecDepth 20000 in
theorem ggX3_apart_X3_isBelt : GoodIn wsX3_apart wsX3_isBelt := goodIn_r _ [12, 2, 13, 14, 11, 15, 25, 26, 27, 28, 29, 30, 31, 32, 33, 34, 35, 36, 37, 38, 39, 40, 41, 42, 43, 44, 45, 46, 47, 48, 49, 50] (by decide +kernel) (by decide +kernel)
set_option maxRecDepth 20000 in
theorem gX3_apart_X3_isBelt : GoodIn wsX3_apart (wsV RX3 103 RX3 yX3_isBelt wsX3_isBelt) := goodIn_app (goodIn_of _ (by decide +kernel)) ggX3_apart_X3_isBelt
set_option maxRecDepth 20000 in
theorem ggX3_apart_X3_needsOf : GoodIn wsX3_apart wsX3_needsOf := goodIn_r _ [19, 6, 7, 20, 21, 22, 11, 23, 24, 25, 26, 27, 28, 29, 30, 31, 32, 33, 34, 35, 36, 37, 38, 39, 40, 41, 42, 43, 44, 45, 46, 47, 48, 49, 50] (by decide +kernel) (by decide +kernel)
set_option maxRecDepth 20000 in
theorem gX3_apart_X3_needsOf : GoodIn wsX3_apart (wsV RX3 106 RX3 yX3_needsOf wsX3_needsOf) := goodIn_app (goodIn_of _ (by decide +kernel)) ggX3_apart_X3_needsOf
theorem dX3_apart_0 : decode cX3_apart 0 = .ok (.aload_n 0, 1) := by decide +kernel
theorem dX3_apart_1 : decode cX3_apart 1 = .ok (.aload_n 0, 1) := by decide +kernel
theorem dX3_apart_2 : decode cX3_apart 2 = .ok (.iload_n 1, 1) := by decide +kernel
theorem dX3_apart_3 : decode cX3_apart 3 = .ok (.invokevirtual 103, 3) := by decide +kernel
theorem dX3_apart_6 : decode cX3_apart 6 = .ok (.ifCond .eq 7, 3) := by decide +kernel
theorem dX3_apart_9 : decode cX3_apart 9 = .ok (.iconst 0, 1) := by decide +kernel
theorem dX3_apart_10 : decode cX3_apart 10 = .ok (.goto 4, 3) := by decide +kernel
theorem dX3_apart_13 : decode cX3_apart 13 = .ok (.iconst 1, 1) := by decide +kernel
theorem dX3_apart_14 : decode cX3_apart 14 = .ok (.putfield 81, 3) := by decide +kernel
theorem dX3_apart_17 : decode cX3_apart 17 = .ok (.aload_n 0, 1) := by decide +kernel
theorem dX3_apart_18 : decode cX3_apart 18 = .ok (.getfield 81, 3) := by decide +kernel
theorem dX3_apart_21 : decode cX3_apart 21 = .ok (.ifCond .le 5, 3) := by decide +kernel
theorem dX3_apart_24 : decode cX3_apart 24 = .ok (.iconst 0, 1) := by decide +kernel
theorem dX3_apart_25 : decode cX3_apart 25 = .ok (.ireturn, 1) := by decide +kernel
theorem dX3_apart_26 : decode cX3_apart 26 = .ok (.aload_n 0, 1) := by decide +kernel
theorem dX3_apart_27 : decode cX3_apart 27 = .ok (.getfield 44, 3) := by decide +kernel
theorem dX3_apart_30 : decode cX3_apart 30 = .ok (.iload_n 1, 1) := by decide +kernel
theorem dX3_apart_31 : decode cX3_apart 31 = .ok (.iaload, 1) := by decide +kernel
theorem dX3_apart_32 : decode cX3_apart 32 = .ok (.istore_n 2, 1) := by decide +kernel
theorem dX3_apart_33 : decode cX3_apart 33 = .ok (.iconst 1, 1) := by decide +kernel
theorem dX3_apart_34 : decode cX3_apart 34 = .ok (.istore_n 3, 1) := by decide +kernel
theorem dX3_apart_35 : decode cX3_apart 35 = .ok (.iconst 0, 1) := by decide +kernel
theorem dX3_apart_36 : decode cX3_apart 36 = .ok (.istore 4, 2) := by decide +kernel
theorem dX3_apart_38 : decode cX3_apart 38 = .ok (.iload 4, 2) := by decide +kernel
theorem dX3_apart_40 : decode cX3_apart 40 = .ok (.bipush 8, 2) := by decide +kernel
theorem dX3_apart_42 : decode cX3_apart 42 = .ok (.if_icmp .ge 49, 3) := by decide +kernel
theorem dX3_apart_45 : decode cX3_apart 45 = .ok (.iload_n 3, 1) := by decide +kernel
theorem dX3_apart_46 : decode cX3_apart 46 = .ok (.ifCond .eq 37, 3) := by decide +kernel
theorem dX3_apart_49 : decode cX3_apart 49 = .ok (.aload_n 0, 1) := by decide +kernel
theorem dX3_apart_50 : decode cX3_apart 50 = .ok (.getfield 7, 3) := by decide +kernel
theorem dX3_apart_53 : decode cX3_apart 53 = .ok (.bipush 8, 2) := by decide +kernel
theorem dX3_apart_55 : decode cX3_apart 55 = .ok (.aload_n 0, 1) := by decide +kernel
theorem dX3_apart_56 : decode cX3_apart 56 = .ok (.getfield 47, 3) := by decide +kernel
theorem dX3_apart_59 : decode cX3_apart 59 = .ok (.iload_n 1, 1) := by decide +kernel
theorem dX3_apart_60 : decode cX3_apart 60 = .ok (.iaload, 1) := by decide +kernel
theorem dX3_apart_61 : decode cX3_apart 61 = .ok (.imul, 1) := by decide +kernel
theorem dX3_apart_62 : decode cX3_apart 62 = .ok (.iload 4, 2) := by decide +kernel
theorem dX3_apart_64 : decode cX3_apart 64 = .ok (.iadd, 1) := by decide +kernel
theorem dX3_apart_65 : decode cX3_apart 65 = .ok (.iaload, 1) := by decide +kernel
theorem dX3_apart_66 : decode cX3_apart 66 = .ok (.aload_n 0, 1) := by decide +kernel
theorem dX3_apart_67 : decode cX3_apart 67 = .ok (.iload_n 2, 1) := by decide +kernel
theorem dX3_apart_68 : decode cX3_apart 68 = .ok (.iload 4, 2) := by decide +kernel
theorem dX3_apart_70 : decode cX3_apart 70 = .ok (.invokevirtual 106, 3) := by decide +kernel
theorem dX3_apart_73 : decode cX3_apart 73 = .ok (.iadd, 1) := by decide +kernel
theorem dX3_apart_74 : decode cX3_apart 74 = .ok (.ldc 98, 2) := by decide +kernel
theorem dX3_apart_76 : decode cX3_apart 76 = .ok (.if_icmp .gt 7, 3) := by decide +kernel
theorem dX3_apart_79 : decode cX3_apart 79 = .ok (.iconst 1, 1) := by decide +kernel
theorem dX3_apart_80 : decode cX3_apart 80 = .ok (.goto 4, 3) := by decide +kernel
theorem dX3_apart_83 : decode cX3_apart 83 = .ok (.iconst 0, 1) := by decide +kernel
theorem dX3_apart_84 : decode cX3_apart 84 = .ok (.istore_n 3, 1) := by decide +kernel
theorem dX3_apart_85 : decode cX3_apart 85 = .ok (.iinc 4 1, 3) := by decide +kernel
theorem dX3_apart_88 : decode cX3_apart 88 = .ok (.goto (-50), 3) := by decide +kernel
theorem dX3_apart_91 : decode cX3_apart 91 = .ok (.aload_n 0, 1) := by decide +kernel
theorem dX3_apart_92 : decode cX3_apart 92 = .ok (.iload_n 3, 1) := by decide +kernel
theorem dX3_apart_93 : decode cX3_apart 93 = .ok (.ifCond .eq 7, 3) := by decide +kernel
theorem dX3_apart_96 : decode cX3_apart 96 = .ok (.iconst 0, 1) := by decide +kernel
theorem dX3_apart_97 : decode cX3_apart 97 = .ok (.goto 4, 3) := by decide +kernel
theorem dX3_apart_100 : decode cX3_apart 100 = .ok (.iconst 2, 1) := by decide +kernel
theorem dX3_apart_101 : decode cX3_apart 101 = .ok (.putfield 81, 3) := by decide +kernel
theorem dX3_apart_104 : decode cX3_apart 104 = .ok (.aload_n 0, 1) := by decide +kernel
theorem dX3_apart_105 : decode cX3_apart 105 = .ok (.getfield 81, 3) := by decide +kernel
theorem dX3_apart_108 : decode cX3_apart 108 = .ok (.ifCond .le 5, 3) := by decide +kernel
theorem dX3_apart_111 : decode cX3_apart 111 = .ok (.iconst 0, 1) := by decide +kernel
theorem dX3_apart_112 : decode cX3_apart 112 = .ok (.ireturn, 1) := by decide +kernel
theorem dX3_apart_113 : decode cX3_apart 113 = .ok (.iconst 0, 1) := by decide +kernel
theorem dX3_apart_114 : decode cX3_apart 114 = .ok (.istore 4, 2) := by decide +kernel
theorem dX3_apart_116 : decode cX3_apart 116 = .ok (.iload 4, 2) := by decide +kernel
theorem dX3_apart_118 : decode cX3_apart 118 = .ok (.bipush 8, 2) := by decide +kernel
theorem dX3_apart_120 : decode cX3_apart 120 = .ok (.if_icmp .ge 36, 3) := by decide +kernel
theorem dX3_apart_123 : decode cX3_apart 123 = .ok (.aload_n 0, 1) := by decide +kernel
theorem dX3_apart_124 : decode cX3_apart 124 = .ok (.getfield 7, 3) := by decide +kernel
theorem dX3_apart_127 : decode cX3_apart 127 = .ok (.bipush 8, 2) := by decide +kernel
theorem dX3_apart_129 : decode cX3_apart 129 = .ok (.aload_n 0, 1) := by decide +kernel
theorem dX3_apart_130 : decode cX3_apart 130 = .ok (.getfield 47, 3) := by decide +kernel
theorem dX3_apart_133 : decode cX3_apart 133 = .ok (.iload_n 1, 1) := by decide +kernel
theorem dX3_apart_134 : decode cX3_apart 134 = .ok (.iaload, 1) := by decide +kernel
theorem dX3_apart_135 : decode cX3_apart 135 = .ok (.imul, 1) := by decide +kernel
theorem dX3_apart_136 : decode cX3_apart 136 = .ok (.iload 4, 2) := by decide +kernel
theorem dX3_apart_138 : decode cX3_apart 138 = .ok (.iadd, 1) := by decide +kernel
theorem dX3_apart_139 : decode cX3_apart 139 = .ok (.dup2, 1) := by decide +kernel
theorem dX3_apart_140 : decode cX3_apart 140 = .ok (.iaload, 1) := by decide +kernel
theorem dX3_apart_141 : decode cX3_apart 141 = .ok (.aload_n 0, 1) := by decide +kernel
theorem dX3_apart_142 : decode cX3_apart 142 = .ok (.iload_n 2, 1) := by decide +kernel
theorem dX3_apart_143 : decode cX3_apart 143 = .ok (.iload 4, 2) := by decide +kernel
theorem dX3_apart_145 : decode cX3_apart 145 = .ok (.invokevirtual 106, 3) := by decide +kernel
theorem dX3_apart_148 : decode cX3_apart 148 = .ok (.iadd, 1) := by decide +kernel
theorem dX3_apart_149 : decode cX3_apart 149 = .ok (.iastore, 1) := by decide +kernel
theorem dX3_apart_150 : decode cX3_apart 150 = .ok (.iinc 4 1, 3) := by decide +kernel
theorem dX3_apart_153 : decode cX3_apart 153 = .ok (.goto (-37), 3) := by decide +kernel
theorem dX3_apart_156 : decode cX3_apart 156 = .ok (.aload_n 0, 1) := by decide +kernel
theorem dX3_apart_157 : decode cX3_apart 157 = .ok (.getfield 44, 3) := by decide +kernel
theorem dX3_apart_160 : decode cX3_apart 160 = .ok (.iload_n 1, 1) := by decide +kernel
theorem dX3_apart_161 : decode cX3_apart 161 = .ok (.iconst (-1), 1) := by decide +kernel
theorem dX3_apart_162 : decode cX3_apart 162 = .ok (.iastore, 1) := by decide +kernel
theorem dX3_apart_163 : decode cX3_apart 163 = .ok (.aload_n 0, 1) := by decide +kernel
theorem dX3_apart_164 : decode cX3_apart 164 = .ok (.getfield 29, 3) := by decide +kernel
theorem dX3_apart_167 : decode cX3_apart 167 = .ok (.iload_n 2, 1) := by decide +kernel
theorem dX3_apart_168 : decode cX3_apart 168 = .ok (.iaload, 1) := by decide +kernel
theorem dX3_apart_169 : decode cX3_apart 169 = .ok (.aload_n 0, 1) := by decide +kernel
theorem dX3_apart_170 : decode cX3_apart 170 = .ok (.getfield 32, 3) := by decide +kernel
theorem dX3_apart_173 : decode cX3_apart 173 = .ok (.iload_n 2, 1) := by decide +kernel
theorem dX3_apart_174 : decode cX3_apart 174 = .ok (.iaload, 1) := by decide +kernel
theorem dX3_apart_175 : decode cX3_apart 175 = .ok (.imul, 1) := by decide +kernel
theorem dX3_apart_176 : decode cX3_apart 176 = .ok (.ireturn, 1) := by decide +kernel
set_option maxRecDepth 20000 in
theorem ggX3_give_X3_isBelt : GoodIn wsX3_give wsX3_isBelt := goodIn_r _ [7, 8, 9, 10, 6, 11, 15, 16, 17, 18, 19, 20, 21, 22, 23, 24, 25, 26, 27, 28, 29, 30, 31, 32, 33, 34, 35, 36, 37, 38, 39, 40] (by decide +kernel) (by decide +kernel)
set_option maxRecDepth 20000 in
theorem gX3_give_X3_isBelt : GoodIn wsX3_give (wsV RX3 103 RX3 yX3_isBelt wsX3_isBelt) := goodIn_app (goodIn_of _ (by decide +kernel)) ggX3_give_X3_isBelt
set_option maxRecDepth 20000 in
theorem ggX3_give_X3_isPerson : GoodIn wsX3_give wsX3_isPerson := goodIn_r _ [14, 9, 10, 6, 11] (by decide +kernel) (by decide +kernel)
set_option maxRecDepth 20000 in
theorem gX3_give_X3_isPerson : GoodIn wsX3_give (va_wsS RX3 91 yX3_isPerson wsX3_isPerson) := goodIn_app (goodIn_of _ (by decide +kernel)) ggX3_give_X3_isPerson
theorem dX3_give_0 : decode cX3_give 0 = .ok (.aload_n 0, 1) := by decide +kernel
theorem dX3_give_1 : decode cX3_give 1 = .ok (.aload_n 0, 1) := by decide +kernel
theorem dX3_give_2 : decode cX3_give 2 = .ok (.iload_n 1, 1) := by decide +kernel
theorem dX3_give_3 : decode cX3_give 3 = .ok (.invokevirtual 103, 3) := by decide +kernel
theorem dX3_give_6 : decode cX3_give 6 = .ok (.ifCond .eq 14, 3) := by decide +kernel
theorem dX3_give_9 : decode cX3_give 9 = .ok (.iload_n 2, 1) := by decide +kernel
theorem dX3_give_10 : decode cX3_give 10 = .ok (.invokestatic 91, 3) := by decide +kernel
theorem dX3_give_13 : decode cX3_give 13 = .ok (.ifCond .eq 7, 3) := by decide +kernel
theorem dX3_give_16 : decode cX3_give 16 = .ok (.iconst 0, 1) := by decide +kernel
theorem dX3_give_17 : decode cX3_give 17 = .ok (.goto 4, 3) := by decide +kernel
theorem dX3_give_20 : decode cX3_give 20 = .ok (.iconst 1, 1) := by decide +kernel
theorem dX3_give_21 : decode cX3_give 21 = .ok (.putfield 81, 3) := by decide +kernel
theorem dX3_give_24 : decode cX3_give 24 = .ok (.aload_n 0, 1) := by decide +kernel
theorem dX3_give_25 : decode cX3_give 25 = .ok (.getfield 81, 3) := by decide +kernel
theorem dX3_give_28 : decode cX3_give 28 = .ok (.ifCond .le 5, 3) := by decide +kernel
theorem dX3_give_31 : decode cX3_give 31 = .ok (.iconst 0, 1) := by decide +kernel
theorem dX3_give_32 : decode cX3_give 32 = .ok (.ireturn, 1) := by decide +kernel
theorem dX3_give_33 : decode cX3_give 33 = .ok (.aload_n 0, 1) := by decide +kernel
theorem dX3_give_34 : decode cX3_give 34 = .ok (.getfield 47, 3) := by decide +kernel
theorem dX3_give_37 : decode cX3_give 37 = .ok (.iload_n 1, 1) := by decide +kernel
theorem dX3_give_38 : decode cX3_give 38 = .ok (.iaload, 1) := by decide +kernel
theorem dX3_give_39 : decode cX3_give 39 = .ok (.istore_n 3, 1) := by decide +kernel
theorem dX3_give_40 : decode cX3_give 40 = .ok (.aload_n 0, 1) := by decide +kernel
theorem dX3_give_41 : decode cX3_give 41 = .ok (.getfield 47, 3) := by decide +kernel
theorem dX3_give_44 : decode cX3_give 44 = .ok (.iload_n 1, 1) := by decide +kernel
theorem dX3_give_45 : decode cX3_give 45 = .ok (.iload_n 2, 1) := by decide +kernel
theorem dX3_give_46 : decode cX3_give 46 = .ok (.iastore, 1) := by decide +kernel
theorem dX3_give_47 : decode cX3_give 47 = .ok (.iload_n 3, 1) := by decide +kernel
theorem dX3_give_48 : decode cX3_give 48 = .ok (.ireturn, 1) := by decide +kernel
set_option maxRecDepth 20000 in
theorem ggX3_owner_X3_isBelt : GoodIn wsX3_owner wsX3_isBelt := goodIn_r _ [7, 8, 9, 10, 6, 11, 12, 13, 14, 15, 16, 17, 18, 19, 20, 21, 22, 23, 24, 25, 26, 27, 28, 29, 30, 31, 32, 33, 34, 35, 36, 37] (by decide +kernel) (by decide +kernel)
set_option maxRecDepth 20000 in
theorem gX3_owner_X3_isBelt : GoodIn wsX3_owner (wsV RX3 103 RX3 yX3_isBelt wsX3_isBelt) := goodIn_app (goodIn_of _ (by decide +kernel)) ggX3_owner_X3_isBelt
theorem dX3_owner_0 : decode cX3_owner 0 = .ok (.aload_n 0, 1) := by decide +kernel
theorem dX3_owner_1 : decode cX3_owner 1 = .ok (.aload_n 0, 1) := by decide +kernel
theorem dX3_owner_2 : decode cX3_owner 2 = .ok (.iload_n 1, 1) := by decide +kernel
theorem dX3_owner_3 : decode cX3_owner 3 = .ok (.invokevirtual 103, 3) := by decide +kernel
theorem dX3_owner_6 : decode cX3_owner 6 = .ok (.ifCond .eq 7, 3) := by decide +kernel
theorem dX3_owner_9 : decode cX3_owner 9 = .ok (.iconst 0, 1) := by decide +kernel
theorem dX3_owner_10 : decode cX3_owner 10 = .ok (.goto 4, 3) := by decide +kernel
theorem dX3_owner_13 : decode cX3_owner 13 = .ok (.iconst 1, 1) := by decide +kernel
theorem dX3_owner_14 : decode cX3_owner 14 = .ok (.putfield 81, 3) := by decide +kernel
theorem dX3_owner_17 : decode cX3_owner 17 = .ok (.aload_n 0, 1) := by decide +kernel
theorem dX3_owner_18 : decode cX3_owner 18 = .ok (.getfield 81, 3) := by decide +kernel
theorem dX3_owner_21 : decode cX3_owner 21 = .ok (.ifCond .le 7, 3) := by decide +kernel
theorem dX3_owner_24 : decode cX3_owner 24 = .ok (.iconst 0, 1) := by decide +kernel
theorem dX3_owner_25 : decode cX3_owner 25 = .ok (.goto 9, 3) := by decide +kernel
theorem dX3_owner_28 : decode cX3_owner 28 = .ok (.aload_n 0, 1) := by decide +kernel
theorem dX3_owner_29 : decode cX3_owner 29 = .ok (.getfield 47, 3) := by decide +kernel
theorem dX3_owner_32 : decode cX3_owner 32 = .ok (.iload_n 1, 1) := by decide +kernel
theorem dX3_owner_33 : decode cX3_owner 33 = .ok (.iaload, 1) := by decide +kernel
theorem dX3_owner_34 : decode cX3_owner 34 = .ok (.ireturn, 1) := by decide +kernel
set_option maxRecDepth 20000 in
theorem ggX3_credits_X3_isPerson : GoodIn wsX3_credits wsX3_isPerson := goodIn_r _ [6, 7, 8, 5, 9] (by decide +kernel) (by decide +kernel)
set_option maxRecDepth 20000 in
theorem gX3_credits_X3_isPerson : GoodIn wsX3_credits (va_wsS RX3 91 yX3_isPerson wsX3_isPerson) := goodIn_app (goodIn_of _ (by decide +kernel)) ggX3_credits_X3_isPerson
theorem dX3_credits_0 : decode cX3_credits 0 = .ok (.aload_n 0, 1) := by decide +kernel
theorem dX3_credits_1 : decode cX3_credits 1 = .ok (.iload_n 1, 1) := by decide +kernel
theorem dX3_credits_2 : decode cX3_credits 2 = .ok (.invokestatic 91, 3) := by decide +kernel
theorem dX3_credits_5 : decode cX3_credits 5 = .ok (.ifCond .eq 7, 3) := by decide +kernel
theorem dX3_credits_8 : decode cX3_credits 8 = .ok (.iconst 0, 1) := by decide +kernel
theorem dX3_credits_9 : decode cX3_credits 9 = .ok (.goto 4, 3) := by decide +kernel
theorem dX3_credits_12 : decode cX3_credits 12 = .ok (.iconst 1, 1) := by decide +kernel
theorem dX3_credits_13 : decode cX3_credits 13 = .ok (.putfield 81, 3) := by decide +kernel
theorem dX3_credits_16 : decode cX3_credits 16 = .ok (.aload_n 0, 1) := by decide +kernel
theorem dX3_credits_17 : decode cX3_credits 17 = .ok (.getfield 81, 3) := by decide +kernel
theorem dX3_credits_20 : decode cX3_credits 20 = .ok (.ifCond .le 7, 3) := by decide +kernel
theorem dX3_credits_23 : decode cX3_credits 23 = .ok (.iconst 0, 1) := by decide +kernel
theorem dX3_credits_24 : decode cX3_credits 24 = .ok (.goto 9, 3) := by decide +kernel
theorem dX3_credits_27 : decode cX3_credits 27 = .ok (.aload_n 0, 1) := by decide +kernel
theorem dX3_credits_28 : decode cX3_credits 28 = .ok (.getfield 50, 3) := by decide +kernel
theorem dX3_credits_31 : decode cX3_credits 31 = .ok (.iload_n 1, 1) := by decide +kernel
theorem dX3_credits_32 : decode cX3_credits 32 = .ok (.iaload, 1) := by decide +kernel
theorem dX3_credits_33 : decode cX3_credits 33 = .ok (.ireturn, 1) := by decide +kernel
set_option maxRecDepth 20000 in
theorem ggX3_wish_X3_isPerson : GoodIn wsX3_wish wsX3_isPerson := goodIn_r _ [7, 8, 9, 6, 10] (by decide +kernel) (by decide +kernel)
set_option maxRecDepth 20000 in
theorem gX3_wish_X3_isPerson : GoodIn wsX3_wish (va_wsS RX3 91 yX3_isPerson wsX3_isPerson) := goodIn_app (goodIn_of _ (by decide +kernel)) ggX3_wish_X3_isPerson
set_option maxRecDepth 20000 in
theorem ggX3_wish_X3_isColour : GoodIn wsX3_wish wsX3_isColour := goodIn_r _ [13, 8, 9, 6, 10] (by decide +kernel) (by decide +kernel)
set_option maxRecDepth 20000 in
theorem gX3_wish_X3_isColour : GoodIn wsX3_wish (va_wsS RX3 95 yX3_isColour wsX3_isColour) := goodIn_app (goodIn_of _ (by decide +kernel)) ggX3_wish_X3_isColour
theorem dX3_wish_0 : decode cX3_wish 0 = .ok (.aload_n 0, 1) := by decide +kernel
theorem dX3_wish_1 : decode cX3_wish 1 = .ok (.iload_n 1, 1) := by decide +kernel
theorem dX3_wish_2 : decode cX3_wish 2 = .ok (.invokestatic 91, 3) := by decide +kernel
theorem dX3_wish_5 : decode cX3_wish 5 = .ok (.ifCond .eq 17, 3) := by decide +kernel
theorem dX3_wish_8 : decode cX3_wish 8 = .ok (.iload_n 2, 1) := by decide +kernel
theorem dX3_wish_9 : decode cX3_wish 9 = .ok (.invokestatic 95, 3) := by decide +kernel
theorem dX3_wish_12 : decode cX3_wish 12 = .ok (.ifCond .eq 10, 3) := by decide +kernel
theorem dX3_wish_15 : decode cX3_wish 15 = .ok (.iload_n 3, 1) := by decide +kernel
theorem dX3_wish_16 : decode cX3_wish 16 = .ok (.invokestatic 95, 3) := by decide +kernel
theorem dX3_wish_19 : decode cX3_wish 19 = .ok (.ifCond .ne 7, 3) := by decide +kernel
theorem dX3_wish_22 : decode cX3_wish 22 = .ok (.iconst 1, 1) := by decide +kernel
theorem dX3_wish_23 : decode cX3_wish 23 = .ok (.goto 13, 3) := by decide +kernel
theorem dX3_wish_26 : decode cX3_wish 26 = .ok (.iload_n 2, 1) := by decide +kernel
theorem dX3_wish_27 : decode cX3_wish 27 = .ok (.iload_n 3, 1) := by decide +kernel
theorem dX3_wish_28 : decode cX3_wish 28 = .ok (.if_icmp .ne 7, 3) := by decide +kernel
theorem dX3_wish_31 : decode cX3_wish 31 = .ok (.iconst 2, 1) := by decide +kernel
theorem dX3_wish_32 : decode cX3_wish 32 = .ok (.goto 4, 3) := by decide +kernel
theorem dX3_wish_35 : decode cX3_wish 35 = .ok (.iconst 0, 1) := by decide +kernel
theorem dX3_wish_36 : decode cX3_wish 36 = .ok (.putfield 81, 3) := by decide +kernel
theorem dX3_wish_39 : decode cX3_wish 39 = .ok (.aload_n 0, 1) := by decide +kernel
theorem dX3_wish_40 : decode cX3_wish 40 = .ok (.getfield 81, 3) := by decide +kernel
theorem dX3_wish_43 : decode cX3_wish 43 = .ok (.ifCond .le 5, 3) := by decide +kernel
theorem dX3_wish_46 : decode cX3_wish 46 = .ok (.iconst 0, 1) := by decide +kernel
theorem dX3_wish_47 : decode cX3_wish 47 = .ok (.ireturn, 1) := by decide +kernel
theorem dX3_wish_48 : decode cX3_wish 48 = .ok (.aload_n 0, 1) := by decide +kernel
theorem dX3_wish_49 : decode cX3_wish 49 = .ok (.getfield 53, 3) := by decide +kernel
theorem dX3_wish_52 : decode cX3_wish 52 = .ok (.iload_n 1, 1) := by decide +kernel
theorem dX3_wish_53 : decode cX3_wish 53 = .ok (.iaload, 1) := by decide +kernel
theorem dX3_wish_54 : decode cX3_wish 54 = .ok (.iconst (-1), 1) := by decide +kernel
theorem dX3_wish_55 : decode cX3_wish 55 = .ok (.if_icmp .eq 7, 3) := by decide +kernel
theorem dX3_wish_58 : decode cX3_wish 58 = .ok (.iconst 1, 1) := by decide +kernel
theorem dX3_wish_59 : decode cX3_wish 59 = .ok (.goto 4, 3) := by decide +kernel
theorem dX3_wish_62 : decode cX3_wish 62 = .ok (.iconst 0, 1) := by decide +kernel
theorem dX3_wish_63 : decode cX3_wish 63 = .ok (.istore 4, 2) := by decide +kernel
theorem dX3_wish_65 : decode cX3_wish 65 = .ok (.aload_n 0, 1) := by decide +kernel
theorem dX3_wish_66 : decode cX3_wish 66 = .ok (.getfield 53, 3) := by decide +kernel
theorem dX3_wish_69 : decode cX3_wish 69 = .ok (.iload_n 1, 1) := by decide +kernel
theorem dX3_wish_70 : decode cX3_wish 70 = .ok (.iload_n 2, 1) := by decide +kernel
theorem dX3_wish_71 : decode cX3_wish 71 = .ok (.iastore, 1) := by decide +kernel
theorem dX3_wish_72 : decode cX3_wish 72 = .ok (.aload_n 0, 1) := by decide +kernel
theorem dX3_wish_73 : decode cX3_wish 73 = .ok (.getfield 56, 3) := by decide +kernel
theorem dX3_wish_76 : decode cX3_wish 76 = .ok (.iload_n 1, 1) := by decide +kernel
theorem dX3_wish_77 : decode cX3_wish 77 = .ok (.iload_n 3, 1) := by decide +kernel
theorem dX3_wish_78 : decode cX3_wish 78 = .ok (.iastore, 1) := by decide +kernel
theorem dX3_wish_79 : decode cX3_wish 79 = .ok (.iload 4, 2) := by decide +kernel
theorem dX3_wish_81 : decode cX3_wish 81 = .ok (.ireturn, 1) := by decide +kernel
set_option maxRecDepth 20000 in
theorem ggX3_unwish_X3_isPerson : GoodIn wsX3_unwish wsX3_isPerson := goodIn_r _ [6, 7, 8, 5, 9] (by decide +kernel) (by decide +kernel)
set_option maxRecDepth 20000 in
theorem gX3_unwish_X3_isPerson : GoodIn wsX3_unwish (va_wsS RX3 91 yX3_isPerson wsX3_isPerson) := goodIn_app (goodIn_of _ (by decide +kernel)) ggX3_unwish_X3_isPerson
theorem dX3_unwish_0 : decode cX3_unwish 0 = .ok (.aload_n 0, 1) := by decide +kernel
theorem dX3_unwish_1 : decode cX3_unwish 1 = .ok (.iload_n 1, 1) := by decide +kernel
theorem dX3_unwish_2 : decode cX3_unwish 2 = .ok (.invokestatic 91, 3) := by decide +kernel
theorem dX3_unwish_5 : decode cX3_unwish 5 = .ok (.ifCond .eq 7, 3) := by decide +kernel
theorem dX3_unwish_8 : decode cX3_unwish 8 = .ok (.iconst 0, 1) := by decide +kernel
theorem dX3_unwish_9 : decode cX3_unwish 9 = .ok (.goto 4, 3) := by decide +kernel
theorem dX3_unwish_12 : decode cX3_unwish 12 = .ok (.iconst 1, 1) := by decide +kernel
theorem dX3_unwish_13 : decode cX3_unwish 13 = .ok (.putfield 81, 3) := by decide +kernel
theorem dX3_unwish_16 : decode cX3_unwish 16 = .ok (.aload_n 0, 1) := by decide +kernel
theorem dX3_unwish_17 : decode cX3_unwish 17 = .ok (.getfield 81, 3) := by decide +kernel
theorem dX3_unwish_20 : decode cX3_unwish 20 = .ok (.ifCond .ne 17, 3) := by decide +kernel
theorem dX3_unwish_23 : decode cX3_unwish 23 = .ok (.aload_n 0, 1) := by decide +kernel
theorem dX3_unwish_24 : decode cX3_unwish 24 = .ok (.getfield 53, 3) := by decide +kernel
theorem dX3_unwish_27 : decode cX3_unwish 27 = .ok (.iload_n 1, 1) := by decide +kernel
theorem dX3_unwish_28 : decode cX3_unwish 28 = .ok (.iaload, 1) := by decide +kernel
theorem dX3_unwish_29 : decode cX3_unwish 29 = .ok (.iconst (-1), 1) := by decide +kernel
theorem dX3_unwish_30 : decode cX3_unwish 30 = .ok (.if_icmp .eq 7, 3) := by decide +kernel
theorem dX3_unwish_33 : decode cX3_unwish 33 = .ok (.iconst 1, 1) := by decide +kernel
theorem dX3_unwish_34 : decode cX3_unwish 34 = .ok (.goto 4, 3) := by decide +kernel
theorem dX3_unwish_37 : decode cX3_unwish 37 = .ok (.iconst 0, 1) := by decide +kernel
theorem dX3_unwish_38 : decode cX3_unwish 38 = .ok (.istore_n 2, 1) := by decide +kernel
theorem dX3_unwish_39 : decode cX3_unwish 39 = .ok (.iload_n 2, 1) := by decide +kernel
theorem dX3_unwish_40 : decode cX3_unwish 40 = .ok (.ifCond .eq 10, 3) := by decide +kernel
theorem dX3_unwish_43 : decode cX3_unwish 43 = .ok (.aload_n 0, 1) := by decide +kernel
theorem dX3_unwish_44 : decode cX3_unwish 44 = .ok (.getfield 53, 3) := by decide +kernel
theorem dX3_unwish_47 : decode cX3_unwish 47 = .ok (.iload_n 1, 1) := by decide +kernel
theorem dX3_unwish_48 : decode cX3_unwish 48 = .ok (.iconst (-1), 1) := by decide +kernel
theorem dX3_unwish_49 : decode cX3_unwish 49 = .ok (.iastore, 1) := by decide +kernel
theorem dX3_unwish_50 : decode cX3_unwish 50 = .ok (.iload_n 2, 1) := by decide +kernel
theorem dX3_unwish_51 : decode cX3_unwish 51 = .ok (.ireturn, 1) := by decide +kernel
theorem dX3_canGive_0 : decode cX3_canGive 0 = .ok (.aload_n 0, 1) := by decide +kernel
theorem dX3_canGive_1 : decode cX3_canGive 1 = .ok (.getfield 53, 3) := by decide +kernel
theorem dX3_canGive_4 : decode cX3_canGive 4 = .ok (.iload_n 1, 1) := by decide +kernel
theorem dX3_canGive_5 : decode cX3_canGive 5 = .ok (.iaload, 1) := by decide +kernel
theorem dX3_canGive_6 : decode cX3_canGive 6 = .ok (.iconst (-1), 1) := by decide +kernel
theorem dX3_canGive_7 : decode cX3_canGive 7 = .ok (.if_icmp .eq 26, 3) := by decide +kernel
theorem dX3_canGive_10 : decode cX3_canGive 10 = .ok (.aload_n 0, 1) := by decide +kernel
theorem dX3_canGive_11 : decode cX3_canGive 11 = .ok (.getfield 7, 3) := by decide +kernel
theorem dX3_canGive_14 : decode cX3_canGive 14 = .ok (.bipush 8, 2) := by decide +kernel
theorem dX3_canGive_16 : decode cX3_canGive 16 = .ok (.iload_n 1, 1) := by decide +kernel
theorem dX3_canGive_17 : decode cX3_canGive 17 = .ok (.imul, 1) := by decide +kernel
theorem dX3_canGive_18 : decode cX3_canGive 18 = .ok (.aload_n 0, 1) := by decide +kernel
theorem dX3_canGive_19 : decode cX3_canGive 19 = .ok (.getfield 53, 3) := by decide +kernel
theorem dX3_canGive_22 : decode cX3_canGive 22 = .ok (.iload_n 1, 1) := by decide +kernel
theorem dX3_canGive_23 : decode cX3_canGive 23 = .ok (.iaload, 1) := by decide +kernel
theorem dX3_canGive_24 : decode cX3_canGive 24 = .ok (.iadd, 1) := by decide +kernel
theorem dX3_canGive_25 : decode cX3_canGive 25 = .ok (.iaload, 1) := by decide +kernel
theorem dX3_canGive_26 : decode cX3_canGive 26 = .ok (.ifCond .le 7, 3) := by decide +kernel
theorem dX3_canGive_29 : decode cX3_canGive 29 = .ok (.iconst 1, 1) := by decide +kernel
theorem dX3_canGive_30 : decode cX3_canGive 30 = .ok (.goto 4, 3) := by decide +kernel
theorem dX3_canGive_33 : decode cX3_canGive 33 = .ok (.iconst 0, 1) := by decide +kernel
theorem dX3_canGive_34 : decode cX3_canGive 34 = .ok (.ireturn, 1) := by decide +kernel
set_option maxRecDepth 20000 in
theorem ggX3_isRow_X3_canGive : GoodIn wsX3_isRow wsX3_canGive := goodIn_r _ [8, 3, 9, 10, 11, 12, 13, 14, 15, 16, 17, 18, 19, 20, 21, 22, 23, 24, 25, 26, 27, 28, 29, 30, 31, 32, 33, 34, 35] (by decide +kernel) (by decide +kernel)
set_option maxRecDepth 20000 in
theorem gX3_isRow_X3_canGive : GoodIn wsX3_isRow (wsV RX3 128 RX3 yX3_canGive wsX3_canGive) := goodIn_app (goodIn_of _ (by decide +kernel)) ggX3_isRow_X3_canGive
theorem dX3_isRow_0 : decode cX3_isRow 0 = .ok (.aload_n 0, 1) := by decide +kernel
theorem dX3_isRow_1 : decode cX3_isRow 1 = .ok (.getfield 62, 3) := by decide +kernel
theorem dX3_isRow_4 : decode cX3_isRow 4 = .ok (.iload_n 1, 1) := by decide +kernel
theorem dX3_isRow_5 : decode cX3_isRow 5 = .ok (.iconst 1, 1) := by decide +kernel
theorem dX3_isRow_6 : decode cX3_isRow 6 = .ok (.isub, 1) := by decide +kernel
theorem dX3_isRow_7 : decode cX3_isRow 7 = .ok (.iaload, 1) := by decide +kernel
theorem dX3_isRow_8 : decode cX3_isRow 8 = .ok (.istore_n 2, 1) := by decide +kernel
theorem dX3_isRow_9 : decode cX3_isRow 9 = .ok (.aload_n 0, 1) := by decide +kernel
theorem dX3_isRow_10 : decode cX3_isRow 10 = .ok (.iload_n 2, 1) := by decide +kernel
theorem dX3_isRow_11 : decode cX3_isRow 11 = .ok (.invokevirtual 128, 3) := by decide +kernel
theorem dX3_isRow_14 : decode cX3_isRow 14 = .ok (.ifCond .eq 17, 3) := by decide +kernel
theorem dX3_isRow_17 : decode cX3_isRow 17 = .ok (.iload_n 2, 1) := by decide +kernel
theorem dX3_isRow_18 : decode cX3_isRow 18 = .ok (.aload_n 0, 1) := by decide +kernel
theorem dX3_isRow_19 : decode cX3_isRow 19 = .ok (.getfield 62, 3) := by decide +kernel
theorem dX3_isRow_22 : decode cX3_isRow 22 = .ok (.iconst 0, 1) := by decide +kernel
theorem dX3_isRow_23 : decode cX3_isRow 23 = .ok (.iaload, 1) := by decide +kernel
theorem dX3_isRow_24 : decode cX3_isRow 24 = .ok (.if_icmp .lt 7, 3) := by decide +kernel
theorem dX3_isRow_27 : decode cX3_isRow 27 = .ok (.iconst 1, 1) := by decide +kernel
theorem dX3_isRow_28 : decode cX3_isRow 28 = .ok (.goto 4, 3) := by decide +kernel
theorem dX3_isRow_31 : decode cX3_isRow 31 = .ok (.iconst 0, 1) := by decide +kernel
theorem dX3_isRow_32 : decode cX3_isRow 32 = .ok (.istore_n 3, 1) := by decide +kernel
theorem dX3_isRow_33 : decode cX3_isRow 33 = .ok (.iconst 0, 1) := by decide +kernel
theorem dX3_isRow_34 : decode cX3_isRow 34 = .ok (.istore 4, 2) := by decide +kernel
theorem dX3_isRow_36 : decode cX3_isRow 36 = .ok (.iload 4, 2) := by decide +kernel
theorem dX3_isRow_38 : decode cX3_isRow 38 = .ok (.iload_n 1, 1) := by decide +kernel
theorem dX3_isRow_39 : decode cX3_isRow 39 = .ok (.iconst 1, 1) := by decide +kernel
theorem dX3_isRow_40 : decode cX3_isRow 40 = .ok (.isub, 1) := by decide +kernel
theorem dX3_isRow_41 : decode cX3_isRow 41 = .ok (.if_icmp .ge 30, 3) := by decide +kernel
theorem dX3_isRow_44 : decode cX3_isRow 44 = .ok (.iload_n 3, 1) := by decide +kernel
theorem dX3_isRow_45 : decode cX3_isRow 45 = .ok (.ifCond .eq 18, 3) := by decide +kernel
theorem dX3_isRow_48 : decode cX3_isRow 48 = .ok (.aload_n 0, 1) := by decide +kernel
theorem dX3_isRow_49 : decode cX3_isRow 49 = .ok (.getfield 62, 3) := by decide +kernel
theorem dX3_isRow_52 : decode cX3_isRow 52 = .ok (.iload 4, 2) := by decide +kernel
theorem dX3_isRow_54 : decode cX3_isRow 54 = .ok (.iaload, 1) := by decide +kernel
theorem dX3_isRow_55 : decode cX3_isRow 55 = .ok (.iload_n 2, 1) := by decide +kernel
theorem dX3_isRow_56 : decode cX3_isRow 56 = .ok (.if_icmp .eq 7, 3) := by decide +kernel
theorem dX3_isRow_59 : decode cX3_isRow 59 = .ok (.iconst 1, 1) := by decide +kernel
theorem dX3_isRow_60 : decode cX3_isRow 60 = .ok (.goto 4, 3) := by decide +kernel
theorem dX3_isRow_63 : decode cX3_isRow 63 = .ok (.iconst 0, 1) := by decide +kernel
theorem dX3_isRow_64 : decode cX3_isRow 64 = .ok (.istore_n 3, 1) := by decide +kernel
theorem dX3_isRow_65 : decode cX3_isRow 65 = .ok (.iinc 4 1, 3) := by decide +kernel
theorem dX3_isRow_68 : decode cX3_isRow 68 = .ok (.goto (-32), 3) := by decide +kernel
theorem dX3_isRow_71 : decode cX3_isRow 71 = .ok (.iload_n 3, 1) := by decide +kernel
theorem dX3_isRow_72 : decode cX3_isRow 72 = .ok (.ifCond .eq 34, 3) := by decide +kernel
theorem dX3_isRow_75 : decode cX3_isRow 75 = .ok (.iload_n 1, 1) := by decide +kernel
theorem dX3_isRow_76 : decode cX3_isRow 76 = .ok (.iconst 1, 1) := by decide +kernel
theorem dX3_isRow_77 : decode cX3_isRow 77 = .ok (.if_icmp .eq 25, 3) := by decide +kernel
theorem dX3_isRow_80 : decode cX3_isRow 80 = .ok (.aload_n 0, 1) := by decide +kernel
theorem dX3_isRow_81 : decode cX3_isRow 81 = .ok (.getfield 56, 3) := by decide +kernel
theorem dX3_isRow_84 : decode cX3_isRow 84 = .ok (.aload_n 0, 1) := by decide +kernel
theorem dX3_isRow_85 : decode cX3_isRow 85 = .ok (.getfield 62, 3) := by decide +kernel
theorem dX3_isRow_88 : decode cX3_isRow 88 = .ok (.iload_n 1, 1) := by decide +kernel
theorem dX3_isRow_89 : decode cX3_isRow 89 = .ok (.iconst 2, 1) := by decide +kernel
theorem dX3_isRow_90 : decode cX3_isRow 90 = .ok (.isub, 1) := by decide +kernel
theorem dX3_isRow_91 : decode cX3_isRow 91 = .ok (.iaload, 1) := by decide +kernel
theorem dX3_isRow_92 : decode cX3_isRow 92 = .ok (.iaload, 1) := by decide +kernel
theorem dX3_isRow_93 : decode cX3_isRow 93 = .ok (.aload_n 0, 1) := by decide +kernel
theorem dX3_isRow_94 : decode cX3_isRow 94 = .ok (.getfield 53, 3) := by decide +kernel
theorem dX3_isRow_97 : decode cX3_isRow 97 = .ok (.iload_n 2, 1) := by decide +kernel
theorem dX3_isRow_98 : decode cX3_isRow 98 = .ok (.iaload, 1) := by decide +kernel
theorem dX3_isRow_99 : decode cX3_isRow 99 = .ok (.if_icmp .ne 7, 3) := by decide +kernel
theorem dX3_isRow_102 : decode cX3_isRow 102 = .ok (.iconst 1, 1) := by decide +kernel
theorem dX3_isRow_103 : decode cX3_isRow 103 = .ok (.goto 4, 3) := by decide +kernel
theorem dX3_isRow_106 : decode cX3_isRow 106 = .ok (.iconst 0, 1) := by decide +kernel
theorem dX3_isRow_107 : decode cX3_isRow 107 = .ok (.ireturn, 1) := by decide +kernel
set_option maxRecDepth 20000 in
theorem ggX3_finds_X3_isRow : GoodIn wsX3_finds wsX3_isRow := goodIn_r _ [9, 1, 2, 3, 10, 11, 12, 8, 13, 14, 15, 16, 17, 18, 19, 20, 21, 22, 23, 24, 25, 26, 27, 28, 29, 30, 31, 32, 33, 34, 35, 36, 37, 38, 39, 40] (by decide +kernel) (by decide +kernel)
set_option maxRecDepth 20000 in
theorem gX3_finds_X3_isRow : GoodIn wsX3_finds (wsV RX3 131 RX3 yX3_isRow wsX3_isRow) := goodIn_app (goodIn_of _ (by decide +kernel)) ggX3_finds_X3_isRow
theorem dX3_finds_0 : decode cX3_finds 0 = .ok (.iconst 0, 1) := by decide +kernel
theorem dX3_finds_1 : decode cX3_finds 1 = .ok (.istore_n 1, 1) := by decide +kernel
theorem dX3_finds_2 : decode cX3_finds 2 = .ok (.iconst 1, 1) := by decide +kernel
theorem dX3_finds_3 : decode cX3_finds 3 = .ok (.istore_n 2, 1) := by decide +kernel
theorem dX3_finds_4 : decode cX3_finds 4 = .ok (.aload_n 0, 1) := by decide +kernel
theorem dX3_finds_5 : decode cX3_finds 5 = .ok (.getfield 62, 3) := by decide +kernel
theorem dX3_finds_8 : decode cX3_finds 8 = .ok (.iconst 0, 1) := by decide +kernel
theorem dX3_finds_9 : decode cX3_finds 9 = .ok (.iconst (-1), 1) := by decide +kernel
theorem dX3_finds_10 : decode cX3_finds 10 = .ok (.iastore, 1) := by decide +kernel
theorem dX3_finds_11 : decode cX3_finds 11 = .ok (.iload_n 2, 1) := by decide +kernel
theorem dX3_finds_12 : decode cX3_finds 12 = .ok (.ifCond .le 128, 3) := by decide +kernel
theorem dX3_finds_15 : decode cX3_finds 15 = .ok (.aload_n 0, 1) := by decide +kernel
theorem dX3_finds_16 : decode cX3_finds 16 = .ok (.getfield 62, 3) := by decide +kernel
theorem dX3_finds_19 : decode cX3_finds 19 = .ok (.iload_n 2, 1) := by decide +kernel
theorem dX3_finds_20 : decode cX3_finds 20 = .ok (.iconst 1, 1) := by decide +kernel
theorem dX3_finds_21 : decode cX3_finds 21 = .ok (.isub, 1) := by decide +kernel
theorem dX3_finds_22 : decode cX3_finds 22 = .ok (.dup2, 1) := by decide +kernel
theorem dX3_finds_23 : decode cX3_finds 23 = .ok (.iaload, 1) := by decide +kernel
theorem dX3_finds_24 : decode cX3_finds 24 = .ok (.iconst 1, 1) := by decide +kernel
theorem dX3_finds_25 : decode cX3_finds 25 = .ok (.iadd, 1) := by decide +kernel
theorem dX3_finds_26 : decode cX3_finds 26 = .ok (.iastore, 1) := by decide +kernel
theorem dX3_finds_27 : decode cX3_finds 27 = .ok (.aload_n 0, 1) := by decide +kernel
theorem dX3_finds_28 : decode cX3_finds 28 = .ok (.getfield 62, 3) := by decide +kernel
theorem dX3_finds_31 : decode cX3_finds 31 = .ok (.iload_n 2, 1) := by decide +kernel
theorem dX3_finds_32 : decode cX3_finds 32 = .ok (.iconst 1, 1) := by decide +kernel
theorem dX3_finds_33 : decode cX3_finds 33 = .ok (.isub, 1) := by decide +kernel
theorem dX3_finds_34 : decode cX3_finds 34 = .ok (.iaload, 1) := by decide +kernel
theorem dX3_finds_35 : decode cX3_finds 35 = .ok (.bipush 7, 2) := by decide +kernel
theorem dX3_finds_37 : decode cX3_finds 37 = .ok (.if_icmp .ne 9, 3) := by decide +kernel
theorem dX3_finds_40 : decode cX3_finds 40 = .ok (.iinc 2 (-1), 3) := by decide +kernel
theorem dX3_finds_43 : decode cX3_finds 43 = .ok (.goto (-32), 3) := by decide +kernel
theorem dX3_finds_46 : decode cX3_finds 46 = .ok (.aload_n 0, 1) := by decide +kernel
theorem dX3_finds_47 : decode cX3_finds 47 = .ok (.iload_n 2, 1) := by decide +kernel
theorem dX3_finds_48 : decode cX3_finds 48 = .ok (.invokevirtual 131, 3) := by decide +kernel
theorem dX3_finds_51 : decode cX3_finds 51 = .ok (.ifCond .ne 6, 3) := by decide +kernel
theorem dX3_finds_54 : decode cX3_finds 54 = .ok (.goto (-43), 3) := by decide +kernel
theorem dX3_finds_57 : decode cX3_finds 57 = .ok (.iload_n 2, 1) := by decide +kernel
theorem dX3_finds_58 : decode cX3_finds 58 = .ok (.iload_n 1, 1) := by decide +kernel
theorem dX3_finds_59 : decode cX3_finds 59 = .ok (.if_icmp .le 62, 3) := by decide +kernel
theorem dX3_finds_62 : decode cX3_finds 62 = .ok (.iload_n 2, 1) := by decide +kernel
theorem dX3_finds_63 : decode cX3_finds 63 = .ok (.iconst 1, 1) := by decide +kernel
theorem dX3_finds_64 : decode cX3_finds 64 = .ok (.if_icmp .le 57, 3) := by decide +kernel
theorem dX3_finds_67 : decode cX3_finds 67 = .ok (.aload_n 0, 1) := by decide +kernel
theorem dX3_finds_68 : decode cX3_finds 68 = .ok (.getfield 56, 3) := by decide +kernel
theorem dX3_finds_71 : decode cX3_finds 71 = .ok (.aload_n 0, 1) := by decide +kernel
theorem dX3_finds_72 : decode cX3_finds 72 = .ok (.getfield 62, 3) := by decide +kernel
theorem dX3_finds_75 : decode cX3_finds 75 = .ok (.iload_n 2, 1) := by decide +kernel
theorem dX3_finds_76 : decode cX3_finds 76 = .ok (.iconst 1, 1) := by decide +kernel
theorem dX3_finds_77 : decode cX3_finds 77 = .ok (.isub, 1) := by decide +kernel
theorem dX3_finds_78 : decode cX3_finds 78 = .ok (.iaload, 1) := by decide +kernel
theorem dX3_finds_79 : decode cX3_finds 79 = .ok (.iaload, 1) := by decide +kernel
theorem dX3_finds_80 : decode cX3_finds 80 = .ok (.aload_n 0, 1) := by decide +kernel
theorem dX3_finds_81 : decode cX3_finds 81 = .ok (.getfield 53, 3) := by decide +kernel
theorem dX3_finds_84 : decode cX3_finds 84 = .ok (.aload_n 0, 1) := by decide +kernel
theorem dX3_finds_85 : decode cX3_finds 85 = .ok (.getfield 62, 3) := by decide +kernel
theorem dX3_finds_88 : decode cX3_finds 88 = .ok (.iconst 0, 1) := by decide +kernel
theorem dX3_finds_89 : decode cX3_finds 89 = .ok (.iaload, 1) := by decide +kernel
theorem dX3_finds_90 : decode cX3_finds 90 = .ok (.iaload, 1) := by decide +kernel
theorem dX3_finds_91 : decode cX3_finds 91 = .ok (.if_icmp .ne 30, 3) := by decide +kernel
theorem dX3_finds_94 : decode cX3_finds 94 = .ok (.iload_n 2, 1) := by decide +kernel
theorem dX3_finds_95 : decode cX3_finds 95 = .ok (.istore_n 1, 1) := by decide +kernel
theorem dX3_finds_96 : decode cX3_finds 96 = .ok (.iconst 0, 1) := by decide +kernel
theorem dX3_finds_97 : decode cX3_finds 97 = .ok (.istore_n 3, 1) := by decide +kernel
theorem dX3_finds_98 : decode cX3_finds 98 = .ok (.iload_n 3, 1) := by decide +kernel
theorem dX3_finds_99 : decode cX3_finds 99 = .ok (.iload_n 2, 1) := by decide +kernel
theorem dX3_finds_100 : decode cX3_finds 100 = .ok (.if_icmp .ge 21, 3) := by decide +kernel
theorem dX3_finds_103 : decode cX3_finds 103 = .ok (.aload_n 0, 1) := by decide +kernel
theorem dX3_finds_104 : decode cX3_finds 104 = .ok (.getfield 59, 3) := by decide +kernel
theorem dX3_finds_107 : decode cX3_finds 107 = .ok (.iload_n 3, 1) := by decide +kernel
theorem dX3_finds_108 : decode cX3_finds 108 = .ok (.aload_n 0, 1) := by decide +kernel
theorem dX3_finds_109 : decode cX3_finds 109 = .ok (.getfield 62, 3) := by decide +kernel
theorem dX3_finds_112 : decode cX3_finds 112 = .ok (.iload_n 3, 1) := by decide +kernel
theorem dX3_finds_113 : decode cX3_finds 113 = .ok (.iaload, 1) := by decide +kernel
theorem dX3_finds_114 : decode cX3_finds 114 = .ok (.iastore, 1) := by decide +kernel
theorem dX3_finds_115 : decode cX3_finds 115 = .ok (.iinc 3 1, 3) := by decide +kernel
theorem dX3_finds_118 : decode cX3_finds 118 = .ok (.goto (-20), 3) := by decide +kernel
theorem dX3_finds_121 : decode cX3_finds 121 = .ok (.iload_n 2, 1) := by decide +kernel
theorem dX3_finds_122 : decode cX3_finds 122 = .ok (.bipush 7, 2) := by decide +kernel
theorem dX3_finds_124 : decode cX3_finds 124 = .ok (.if_icmp .ge (-113), 3) := by decide +kernel
theorem dX3_finds_127 : decode cX3_finds 127 = .ok (.aload_n 0, 1) := by decide +kernel
theorem dX3_finds_128 : decode cX3_finds 128 = .ok (.getfield 62, 3) := by decide +kernel
theorem dX3_finds_131 : decode cX3_finds 131 = .ok (.iload_n 2, 1) := by decide +kernel
theorem dX3_finds_132 : decode cX3_finds 132 = .ok (.iconst (-1), 1) := by decide +kernel
theorem dX3_finds_133 : decode cX3_finds 133 = .ok (.iastore, 1) := by decide +kernel
theorem dX3_finds_134 : decode cX3_finds 134 = .ok (.iinc 2 1, 3) := by decide +kernel
theorem dX3_finds_137 : decode cX3_finds 137 = .ok (.goto (-126), 3) := by decide +kernel
theorem dX3_finds_140 : decode cX3_finds 140 = .ok (.iload_n 1, 1) := by decide +kernel
theorem dX3_finds_141 : decode cX3_finds 141 = .ok (.ireturn, 1) := by decide +kernel
set_option maxRecDepth 20000 in
theorem ggX3_chain_X3_finds : GoodIn wsX3_chain wsX3_finds := goodIn_r _ [6, 7, 8, 9, 10, 11, 12, 13, 5, 14, 15, 16, 17, 18, 19, 20, 21, 22, 23, 24, 25, 26, 27, 28, 29, 30, 31, 32, 33, 34, 35, 36, 37, 38, 39, 40, 41, 42, 43, 44, 45] (by decide +kernel) (by decide +kernel)
set_option maxRecDepth 20000 in
theorem gX3_chain_X3_finds : GoodIn wsX3_chain (wsV RX3 134 RX3 yX3_finds wsX3_finds) := goodIn_app (goodIn_of _ (by decide +kernel)) ggX3_chain_X3_finds
theorem dX3_chain_0 : decode cX3_chain 0 = .ok (.aload_n 0, 1) := by decide +kernel
theorem dX3_chain_1 : decode cX3_chain 1 = .ok (.iconst 0, 1) := by decide +kernel
theorem dX3_chain_2 : decode cX3_chain 2 = .ok (.putfield 81, 3) := by decide +kernel
theorem dX3_chain_5 : decode cX3_chain 5 = .ok (.aload_n 0, 1) := by decide +kernel
theorem dX3_chain_6 : decode cX3_chain 6 = .ok (.invokevirtual 134, 3) := by decide +kernel
theorem dX3_chain_9 : decode cX3_chain 9 = .ok (.ireturn, 1) := by decide +kernel
set_option maxRecDepth 20000 in
theorem ggX3_chainByOrders_X3_finds : GoodIn wsX3_chainByOrders wsX3_finds := goodIn_r _ [6, 7, 8, 9, 10, 11, 12, 13, 5, 14, 15, 16, 17, 18, 19, 20, 21, 22, 23, 24, 25, 26, 27, 28, 29, 30, 31, 32, 33, 34, 35, 36, 37, 38, 39, 40, 41, 42, 43, 44, 45] (by decide +kernel) (by decide +kernel)
set_option maxRecDepth 20000 in
theorem gX3_chainByOrders_X3_finds : GoodIn wsX3_chainByOrders (wsV RX3 134 RX3 yX3_finds wsX3_finds) := goodIn_app (goodIn_of _ (by decide +kernel)) ggX3_chainByOrders_X3_finds
theorem dX3_chainByOrders_0 : decode cX3_chainByOrders 0 = .ok (.aload_n 0, 1) := by decide +kernel
theorem dX3_chainByOrders_1 : decode cX3_chainByOrders 1 = .ok (.iconst 0, 1) := by decide +kernel
theorem dX3_chainByOrders_2 : decode cX3_chainByOrders 2 = .ok (.putfield 81, 3) := by decide +kernel
theorem dX3_chainByOrders_5 : decode cX3_chainByOrders 5 = .ok (.aload_n 0, 1) := by decide +kernel
theorem dX3_chainByOrders_6 : decode cX3_chainByOrders 6 = .ok (.invokevirtual 134, 3) := by decide +kernel
theorem dX3_chainByOrders_9 : decode cX3_chainByOrders 9 = .ok (.ireturn, 1) := by decide +kernel
set_option maxRecDepth 20000 in
theorem ggX3_chainAt_X3_finds : GoodIn wsX3_chainAt wsX3_finds := goodIn_r _ [7, 8, 9, 10, 2, 11, 12, 13, 6, 14, 15, 16, 17, 18, 19, 23, 24, 25, 26, 27, 28, 29, 30, 31, 32, 33, 34, 35, 36, 37, 38, 39, 40, 41, 42, 43, 44, 45, 46, 47, 48] (by decide +kernel) (by decide +kernel)
set_option maxRecDepth 20000 in
theorem gX3_chainAt_X3_finds : GoodIn wsX3_chainAt (wsV RX3 134 RX3 yX3_finds wsX3_finds) := goodIn_app (goodIn_of _ (by decide +kernel)) ggX3_chainAt_X3_finds
set_option maxRecDepth 20000 in
theorem ggX3_chainAt_X3_isIn : GoodIn wsX3_chainAt wsX3_isIn := goodIn_r _ [22] (by decide +kernel) (by decide +kernel)
set_option maxRecDepth 20000 in
theorem gX3_chainAt_X3_isIn : GoodIn wsX3_chainAt (va_wsS RX3 84 yX3_isIn wsX3_isIn) := goodIn_app (goodIn_of _ (by decide +kernel)) ggX3_chainAt_X3_isIn
theorem dX3_chainAt_0 : decode cX3_chainAt 0 = .ok (.aload_n 0, 1) := by decide +kernel
theorem dX3_chainAt_1 : decode cX3_chainAt 1 = .ok (.iload_n 1, 1) := by decide +kernel
theorem dX3_chainAt_2 : decode cX3_chainAt 2 = .ok (.iconst 0, 1) := by decide +kernel
theorem dX3_chainAt_3 : decode cX3_chainAt 3 = .ok (.aload_n 0, 1) := by decide +kernel
theorem dX3_chainAt_4 : decode cX3_chainAt 4 = .ok (.invokevirtual 134, 3) := by decide +kernel
theorem dX3_chainAt_7 : decode cX3_chainAt 7 = .ok (.iconst 1, 1) := by decide +kernel
theorem dX3_chainAt_8 : decode cX3_chainAt 8 = .ok (.isub, 1) := by decide +kernel
theorem dX3_chainAt_9 : decode cX3_chainAt 9 = .ok (.invokestatic 84, 3) := by decide +kernel
theorem dX3_chainAt_12 : decode cX3_chainAt 12 = .ok (.ifCond .eq 7, 3) := by decide +kernel
theorem dX3_chainAt_15 : decode cX3_chainAt 15 = .ok (.iconst 0, 1) := by decide +kernel
theorem dX3_chainAt_16 : decode cX3_chainAt 16 = .ok (.goto 4, 3) := by decide +kernel
theorem dX3_chainAt_19 : decode cX3_chainAt 19 = .ok (.iconst 1, 1) := by decide +kernel
theorem dX3_chainAt_20 : decode cX3_chainAt 20 = .ok (.putfield 81, 3) := by decide +kernel
theorem dX3_chainAt_23 : decode cX3_chainAt 23 = .ok (.aload_n 0, 1) := by decide +kernel
theorem dX3_chainAt_24 : decode cX3_chainAt 24 = .ok (.getfield 81, 3) := by decide +kernel
theorem dX3_chainAt_27 : decode cX3_chainAt 27 = .ok (.ifCond .le 7, 3) := by decide +kernel
theorem dX3_chainAt_30 : decode cX3_chainAt 30 = .ok (.iconst 0, 1) := by decide +kernel
theorem dX3_chainAt_31 : decode cX3_chainAt 31 = .ok (.goto 9, 3) := by decide +kernel
theorem dX3_chainAt_34 : decode cX3_chainAt 34 = .ok (.aload_n 0, 1) := by decide +kernel
theorem dX3_chainAt_35 : decode cX3_chainAt 35 = .ok (.getfield 59, 3) := by decide +kernel
theorem dX3_chainAt_38 : decode cX3_chainAt 38 = .ok (.iload_n 1, 1) := by decide +kernel
theorem dX3_chainAt_39 : decode cX3_chainAt 39 = .ok (.iaload, 1) := by decide +kernel
theorem dX3_chainAt_40 : decode cX3_chainAt 40 = .ok (.ireturn, 1) := by decide +kernel
set_option maxRecDepth 20000 in
theorem ggX3_fair_X3_finds : GoodIn wsX3_fair wsX3_finds := goodIn_r _ [10, 11, 5, 4, 2, 12, 13, 14, 9, 15, 16, 17, 18, 19, 3, 20, 21, 22, 23, 24, 25, 26, 27, 28, 29, 30, 31, 32, 33, 34, 35, 36, 37, 38, 39, 40, 41, 42, 43, 44, 45] (by decide +kernel) (by decide +kernel)
set_option maxRecDepth 20000 in
theorem gX3_fair_X3_finds : GoodIn wsX3_fair (wsV RX3 134 RX3 yX3_finds wsX3_finds) := goodIn_app (goodIn_of _ (by decide +kernel)) ggX3_fair_X3_finds
theorem dX3_fair_0 : decode cX3_fair 0 = .ok (.aload_n 0, 1) := by decide +kernel
theorem dX3_fair_1 : decode cX3_fair 1 = .ok (.iconst 0, 1) := by decide +kernel
theorem dX3_fair_2 : decode cX3_fair 2 = .ok (.putfield 81, 3) := by decide +kernel
theorem dX3_fair_5 : decode cX3_fair 5 = .ok (.aload_n 0, 1) := by decide +kernel
theorem dX3_fair_6 : decode cX3_fair 6 = .ok (.invokevirtual 134, 3) := by decide +kernel
theorem dX3_fair_9 : decode cX3_fair 9 = .ok (.istore_n 1, 1) := by decide +kernel
theorem dX3_fair_10 : decode cX3_fair 10 = .ok (.iconst 0, 1) := by decide +kernel
theorem dX3_fair_11 : decode cX3_fair 11 = .ok (.istore_n 2, 1) := by decide +kernel
theorem dX3_fair_12 : decode cX3_fair 12 = .ok (.iload_n 2, 1) := by decide +kernel
theorem dX3_fair_13 : decode cX3_fair 13 = .ok (.iload_n 1, 1) := by decide +kernel
theorem dX3_fair_14 : decode cX3_fair 14 = .ok (.if_icmp .ge 56, 3) := by decide +kernel
theorem dX3_fair_17 : decode cX3_fair 17 = .ok (.aload_n 0, 1) := by decide +kernel
theorem dX3_fair_18 : decode cX3_fair 18 = .ok (.getfield 59, 3) := by decide +kernel
theorem dX3_fair_21 : decode cX3_fair 21 = .ok (.iload_n 2, 1) := by decide +kernel
theorem dX3_fair_22 : decode cX3_fair 22 = .ok (.iaload, 1) := by decide +kernel
theorem dX3_fair_23 : decode cX3_fair 23 = .ok (.istore_n 3, 1) := by decide +kernel
theorem dX3_fair_24 : decode cX3_fair 24 = .ok (.aload_n 0, 1) := by decide +kernel
theorem dX3_fair_25 : decode cX3_fair 25 = .ok (.getfield 7, 3) := by decide +kernel
theorem dX3_fair_28 : decode cX3_fair 28 = .ok (.bipush 8, 2) := by decide +kernel
theorem dX3_fair_30 : decode cX3_fair 30 = .ok (.iload_n 3, 1) := by decide +kernel
theorem dX3_fair_31 : decode cX3_fair 31 = .ok (.imul, 1) := by decide +kernel
theorem dX3_fair_32 : decode cX3_fair 32 = .ok (.aload_n 0, 1) := by decide +kernel
theorem dX3_fair_33 : decode cX3_fair 33 = .ok (.getfield 53, 3) := by decide +kernel
theorem dX3_fair_36 : decode cX3_fair 36 = .ok (.iload_n 3, 1) := by decide +kernel
theorem dX3_fair_37 : decode cX3_fair 37 = .ok (.iaload, 1) := by decide +kernel
theorem dX3_fair_38 : decode cX3_fair 38 = .ok (.iadd, 1) := by decide +kernel
theorem dX3_fair_39 : decode cX3_fair 39 = .ok (.dup2, 1) := by decide +kernel
theorem dX3_fair_40 : decode cX3_fair 40 = .ok (.iaload, 1) := by decide +kernel
theorem dX3_fair_41 : decode cX3_fair 41 = .ok (.iconst 1, 1) := by decide +kernel
theorem dX3_fair_42 : decode cX3_fair 42 = .ok (.isub, 1) := by decide +kernel
theorem dX3_fair_43 : decode cX3_fair 43 = .ok (.iastore, 1) := by decide +kernel
theorem dX3_fair_44 : decode cX3_fair 44 = .ok (.aload_n 0, 1) := by decide +kernel
theorem dX3_fair_45 : decode cX3_fair 45 = .ok (.getfield 7, 3) := by decide +kernel
theorem dX3_fair_48 : decode cX3_fair 48 = .ok (.bipush 8, 2) := by decide +kernel
theorem dX3_fair_50 : decode cX3_fair 50 = .ok (.iload_n 3, 1) := by decide +kernel
theorem dX3_fair_51 : decode cX3_fair 51 = .ok (.imul, 1) := by decide +kernel
theorem dX3_fair_52 : decode cX3_fair 52 = .ok (.aload_n 0, 1) := by decide +kernel
theorem dX3_fair_53 : decode cX3_fair 53 = .ok (.getfield 56, 3) := by decide +kernel
theorem dX3_fair_56 : decode cX3_fair 56 = .ok (.iload_n 3, 1) := by decide +kernel
theorem dX3_fair_57 : decode cX3_fair 57 = .ok (.iaload, 1) := by decide +kernel
theorem dX3_fair_58 : decode cX3_fair 58 = .ok (.iadd, 1) := by decide +kernel
theorem dX3_fair_59 : decode cX3_fair 59 = .ok (.dup2, 1) := by decide +kernel
theorem dX3_fair_60 : decode cX3_fair 60 = .ok (.iaload, 1) := by decide +kernel
theorem dX3_fair_61 : decode cX3_fair 61 = .ok (.iconst 1, 1) := by decide +kernel
theorem dX3_fair_62 : decode cX3_fair 62 = .ok (.iadd, 1) := by decide +kernel
theorem dX3_fair_63 : decode cX3_fair 63 = .ok (.iastore, 1) := by decide +kernel
theorem dX3_fair_64 : decode cX3_fair 64 = .ok (.iinc 2 1, 3) := by decide +kernel
theorem dX3_fair_67 : decode cX3_fair 67 = .ok (.goto (-55), 3) := by decide +kernel
theorem dX3_fair_70 : decode cX3_fair 70 = .ok (.iload_n 1, 1) := by decide +kernel
theorem dX3_fair_71 : decode cX3_fair 71 = .ok (.ireturn, 1) := by decide +kernel
set_option maxRecDepth 20000 in
theorem ggX3_sign_X3_isIn : GoodIn wsX3_sign wsX3_isIn := goodIn_r _ [13] (by decide +kernel) (by decide +kernel)
set_option maxRecDepth 20000 in
theorem gX3_sign_X3_isIn : GoodIn wsX3_sign (va_wsS RX3 84 yX3_isIn wsX3_isIn) := goodIn_app (goodIn_of _ (by decide +kernel)) ggX3_sign_X3_isIn
theorem dX3_sign_0 : decode cX3_sign 0 = .ok (.aload_n 0, 1) := by decide +kernel
theorem dX3_sign_1 : decode cX3_sign 1 = .ok (.iload_n 1, 1) := by decide +kernel
theorem dX3_sign_2 : decode cX3_sign 2 = .ok (.iconst 1, 1) := by decide +kernel
theorem dX3_sign_3 : decode cX3_sign 3 = .ok (.bipush 100, 2) := by decide +kernel
theorem dX3_sign_5 : decode cX3_sign 5 = .ok (.invokestatic 84, 3) := by decide +kernel
theorem dX3_sign_8 : decode cX3_sign 8 = .ok (.ifCond .ne 7, 3) := by decide +kernel
theorem dX3_sign_11 : decode cX3_sign 11 = .ok (.iconst 1, 1) := by decide +kernel
theorem dX3_sign_12 : decode cX3_sign 12 = .ok (.goto 33, 3) := by decide +kernel
theorem dX3_sign_15 : decode cX3_sign 15 = .ok (.aload_n 0, 1) := by decide +kernel
theorem dX3_sign_16 : decode cX3_sign 16 = .ok (.getfield 19, 3) := by decide +kernel
theorem dX3_sign_19 : decode cX3_sign 19 = .ok (.iconst 3, 1) := by decide +kernel
theorem dX3_sign_20 : decode cX3_sign 20 = .ok (.if_icmp .gt 20, 3) := by decide +kernel
theorem dX3_sign_23 : decode cX3_sign 23 = .ok (.aload_n 0, 1) := by decide +kernel
theorem dX3_sign_24 : decode cX3_sign 24 = .ok (.getfield 23, 3) := by decide +kernel
theorem dX3_sign_27 : decode cX3_sign 27 = .ok (.iconst 3, 1) := by decide +kernel
theorem dX3_sign_28 : decode cX3_sign 28 = .ok (.if_icmp .gt 12, 3) := by decide +kernel
theorem dX3_sign_31 : decode cX3_sign 31 = .ok (.aload_n 0, 1) := by decide +kernel
theorem dX3_sign_32 : decode cX3_sign 32 = .ok (.getfield 137, 3) := by decide +kernel
theorem dX3_sign_35 : decode cX3_sign 35 = .ok (.bipush 8, 2) := by decide +kernel
theorem dX3_sign_37 : decode cX3_sign 37 = .ok (.if_icmp .ne 7, 3) := by decide +kernel
theorem dX3_sign_40 : decode cX3_sign 40 = .ok (.iconst 2, 1) := by decide +kernel
theorem dX3_sign_41 : decode cX3_sign 41 = .ok (.goto 4, 3) := by decide +kernel
theorem dX3_sign_44 : decode cX3_sign 44 = .ok (.iconst 0, 1) := by decide +kernel
theorem dX3_sign_45 : decode cX3_sign 45 = .ok (.putfield 81, 3) := by decide +kernel
theorem dX3_sign_48 : decode cX3_sign 48 = .ok (.aload_n 0, 1) := by decide +kernel
theorem dX3_sign_49 : decode cX3_sign 49 = .ok (.getfield 81, 3) := by decide +kernel
theorem dX3_sign_52 : decode cX3_sign 52 = .ok (.ifCond .le 5, 3) := by decide +kernel
theorem dX3_sign_55 : decode cX3_sign 55 = .ok (.iconst 0, 1) := by decide +kernel
theorem dX3_sign_56 : decode cX3_sign 56 = .ok (.ireturn, 1) := by decide +kernel
theorem dX3_sign_57 : decode cX3_sign 57 = .ok (.aload_n 0, 1) := by decide +kernel
theorem dX3_sign_58 : decode cX3_sign 58 = .ok (.getfield 65, 3) := by decide +kernel
theorem dX3_sign_61 : decode cX3_sign 61 = .ok (.aload_n 0, 1) := by decide +kernel
theorem dX3_sign_62 : decode cX3_sign 62 = .ok (.getfield 137, 3) := by decide +kernel
theorem dX3_sign_65 : decode cX3_sign 65 = .ok (.aload_n 0, 1) := by decide +kernel
theorem dX3_sign_66 : decode cX3_sign 66 = .ok (.getfield 19, 3) := by decide +kernel
theorem dX3_sign_69 : decode cX3_sign 69 = .ok (.iastore, 1) := by decide +kernel
theorem dX3_sign_70 : decode cX3_sign 70 = .ok (.aload_n 0, 1) := by decide +kernel
theorem dX3_sign_71 : decode cX3_sign 71 = .ok (.getfield 68, 3) := by decide +kernel
theorem dX3_sign_74 : decode cX3_sign 74 = .ok (.aload_n 0, 1) := by decide +kernel
theorem dX3_sign_75 : decode cX3_sign 75 = .ok (.getfield 137, 3) := by decide +kernel
theorem dX3_sign_78 : decode cX3_sign 78 = .ok (.aload_n 0, 1) := by decide +kernel
theorem dX3_sign_79 : decode cX3_sign 79 = .ok (.getfield 23, 3) := by decide +kernel
theorem dX3_sign_82 : decode cX3_sign 82 = .ok (.iastore, 1) := by decide +kernel
theorem dX3_sign_83 : decode cX3_sign 83 = .ok (.aload_n 0, 1) := by decide +kernel
theorem dX3_sign_84 : decode cX3_sign 84 = .ok (.getfield 74, 3) := by decide +kernel
theorem dX3_sign_87 : decode cX3_sign 87 = .ok (.aload_n 0, 1) := by decide +kernel
theorem dX3_sign_88 : decode cX3_sign 88 = .ok (.getfield 137, 3) := by decide +kernel
theorem dX3_sign_91 : decode cX3_sign 91 = .ok (.iload_n 1, 1) := by decide +kernel
theorem dX3_sign_92 : decode cX3_sign 92 = .ok (.iastore, 1) := by decide +kernel
theorem dX3_sign_93 : decode cX3_sign 93 = .ok (.iconst 0, 1) := by decide +kernel
theorem dX3_sign_94 : decode cX3_sign 94 = .ok (.istore_n 2, 1) := by decide +kernel
theorem dX3_sign_95 : decode cX3_sign 95 = .ok (.iload_n 2, 1) := by decide +kernel
theorem dX3_sign_96 : decode cX3_sign 96 = .ok (.aload_n 0, 1) := by decide +kernel
theorem dX3_sign_97 : decode cX3_sign 97 = .ok (.getfield 19, 3) := by decide +kernel
theorem dX3_sign_100 : decode cX3_sign 100 = .ok (.aload_n 0, 1) := by decide +kernel
theorem dX3_sign_101 : decode cX3_sign 101 = .ok (.getfield 23, 3) := by decide +kernel
theorem dX3_sign_104 : decode cX3_sign 104 = .ok (.imul, 1) := by decide +kernel
theorem dX3_sign_105 : decode cX3_sign 105 = .ok (.if_icmp .ge 44, 3) := by decide +kernel
theorem dX3_sign_108 : decode cX3_sign 108 = .ok (.aload_n 0, 1) := by decide +kernel
theorem dX3_sign_109 : decode cX3_sign 109 = .ok (.getfield 71, 3) := by decide +kernel
theorem dX3_sign_112 : decode cX3_sign 112 = .ok (.bipush 9, 2) := by decide +kernel
theorem dX3_sign_114 : decode cX3_sign 114 = .ok (.aload_n 0, 1) := by decide +kernel
theorem dX3_sign_115 : decode cX3_sign 115 = .ok (.getfield 137, 3) := by decide +kernel
theorem dX3_sign_118 : decode cX3_sign 118 = .ok (.imul, 1) := by decide +kernel
theorem dX3_sign_119 : decode cX3_sign 119 = .ok (.iload_n 2, 1) := by decide +kernel
theorem dX3_sign_120 : decode cX3_sign 120 = .ok (.iadd, 1) := by decide +kernel
theorem dX3_sign_121 : decode cX3_sign 121 = .ok (.aload_n 0, 1) := by decide +kernel
theorem dX3_sign_122 : decode cX3_sign 122 = .ok (.getfield 26, 3) := by decide +kernel
theorem dX3_sign_125 : decode cX3_sign 125 = .ok (.bipush 8, 2) := by decide +kernel
theorem dX3_sign_127 : decode cX3_sign 127 = .ok (.iload_n 2, 1) := by decide +kernel
theorem dX3_sign_128 : decode cX3_sign 128 = .ok (.aload_n 0, 1) := by decide +kernel
theorem dX3_sign_129 : decode cX3_sign 129 = .ok (.getfield 19, 3) := by decide +kernel
theorem dX3_sign_132 : decode cX3_sign 132 = .ok (.idiv, 1) := by decide +kernel
theorem dX3_sign_133 : decode cX3_sign 133 = .ok (.imul, 1) := by decide +kernel
theorem dX3_sign_134 : decode cX3_sign 134 = .ok (.iload_n 2, 1) := by decide +kernel
theorem dX3_sign_135 : decode cX3_sign 135 = .ok (.aload_n 0, 1) := by decide +kernel
theorem dX3_sign_136 : decode cX3_sign 136 = .ok (.getfield 19, 3) := by decide +kernel
theorem dX3_sign_139 : decode cX3_sign 139 = .ok (.irem, 1) := by decide +kernel
theorem dX3_sign_140 : decode cX3_sign 140 = .ok (.iadd, 1) := by decide +kernel
theorem dX3_sign_141 : decode cX3_sign 141 = .ok (.iaload, 1) := by decide +kernel
theorem dX3_sign_142 : decode cX3_sign 142 = .ok (.iastore, 1) := by decide +kernel
theorem dX3_sign_143 : decode cX3_sign 143 = .ok (.iinc 2 1, 3) := by decide +kernel
theorem dX3_sign_146 : decode cX3_sign 146 = .ok (.goto (-51), 3) := by decide +kernel
theorem dX3_sign_149 : decode cX3_sign 149 = .ok (.aload_n 0, 1) := by decide +kernel
theorem dX3_sign_150 : decode cX3_sign 150 = .ok (.dup, 1) := by decide +kernel
theorem dX3_sign_151 : decode cX3_sign 151 = .ok (.getfield 137, 3) := by decide +kernel
theorem dX3_sign_154 : decode cX3_sign 154 = .ok (.iconst 1, 1) := by decide +kernel
theorem dX3_sign_155 : decode cX3_sign 155 = .ok (.iadd, 1) := by decide +kernel
theorem dX3_sign_156 : decode cX3_sign 156 = .ok (.putfield 137, 3) := by decide +kernel
theorem dX3_sign_159 : decode cX3_sign 159 = .ok (.aload_n 0, 1) := by decide +kernel
theorem dX3_sign_160 : decode cX3_sign 160 = .ok (.getfield 137, 3) := by decide +kernel
theorem dX3_sign_163 : decode cX3_sign 163 = .ok (.iconst 1, 1) := by decide +kernel
theorem dX3_sign_164 : decode cX3_sign 164 = .ok (.isub, 1) := by decide +kernel
theorem dX3_sign_165 : decode cX3_sign 165 = .ok (.ireturn, 1) := by decide +kernel
set_option maxRecDepth 20000 in
theorem ggX3_standsAt_X3_at : GoodIn wsX3_standsAt wsX3_at := goodIn_r _ [10, 11, 12, 13, 14, 15, 16, 17, 18, 19, 20, 21, 22, 23, 24, 25, 26, 27, 28, 29, 30, 31, 32, 33, 34, 35, 36, 37] (by decide +kernel) (by decide +kernel)
set_option maxRecDepth 20000 in
theorem gX3_standsAt_X3_at : GoodIn wsX3_standsAt (wsV RX3 99 RX3 yX3_at wsX3_at) := goodIn_app (goodIn_of _ (by decide +kernel)) ggX3_standsAt_X3_at
theorem dX3_standsAt_0 : decode cX3_standsAt 0 = .ok (.aload_n 0, 1) := by decide +kernel
theorem dX3_standsAt_1 : decode cX3_standsAt 1 = .ok (.getfield 65, 3) := by decide +kernel
theorem dX3_standsAt_4 : decode cX3_standsAt 4 = .ok (.iload_n 1, 1) := by decide +kernel
theorem dX3_standsAt_5 : decode cX3_standsAt 5 = .ok (.iaload, 1) := by decide +kernel
theorem dX3_standsAt_6 : decode cX3_standsAt 6 = .ok (.istore 5, 2) := by decide +kernel
theorem dX3_standsAt_8 : decode cX3_standsAt 8 = .ok (.iload_n 3, 1) := by decide +kernel
theorem dX3_standsAt_9 : decode cX3_standsAt 9 = .ok (.iload 5, 2) := by decide +kernel
theorem dX3_standsAt_11 : decode cX3_standsAt 11 = .ok (.iadd, 1) := by decide +kernel
theorem dX3_standsAt_12 : decode cX3_standsAt 12 = .ok (.aload_n 0, 1) := by decide +kernel
theorem dX3_standsAt_13 : decode cX3_standsAt 13 = .ok (.getfield 29, 3) := by decide +kernel
theorem dX3_standsAt_16 : decode cX3_standsAt 16 = .ok (.iload_n 2, 1) := by decide +kernel
theorem dX3_standsAt_17 : decode cX3_standsAt 17 = .ok (.iaload, 1) := by decide +kernel
theorem dX3_standsAt_18 : decode cX3_standsAt 18 = .ok (.if_icmp .gt 25, 3) := by decide +kernel
theorem dX3_standsAt_21 : decode cX3_standsAt 21 = .ok (.iload 4, 2) := by decide +kernel
theorem dX3_standsAt_23 : decode cX3_standsAt 23 = .ok (.aload_n 0, 1) := by decide +kernel
theorem dX3_standsAt_24 : decode cX3_standsAt 24 = .ok (.getfield 68, 3) := by decide +kernel
theorem dX3_standsAt_27 : decode cX3_standsAt 27 = .ok (.iload_n 1, 1) := by decide +kernel
theorem dX3_standsAt_28 : decode cX3_standsAt 28 = .ok (.iaload, 1) := by decide +kernel
theorem dX3_standsAt_29 : decode cX3_standsAt 29 = .ok (.iadd, 1) := by decide +kernel
theorem dX3_standsAt_30 : decode cX3_standsAt 30 = .ok (.aload_n 0, 1) := by decide +kernel
theorem dX3_standsAt_31 : decode cX3_standsAt 31 = .ok (.getfield 32, 3) := by decide +kernel
theorem dX3_standsAt_34 : decode cX3_standsAt 34 = .ok (.iload_n 2, 1) := by decide +kernel
theorem dX3_standsAt_35 : decode cX3_standsAt 35 = .ok (.iaload, 1) := by decide +kernel
theorem dX3_standsAt_36 : decode cX3_standsAt 36 = .ok (.if_icmp .gt 7, 3) := by decide +kernel
theorem dX3_standsAt_39 : decode cX3_standsAt 39 = .ok (.iconst 1, 1) := by decide +kernel
theorem dX3_standsAt_40 : decode cX3_standsAt 40 = .ok (.goto 4, 3) := by decide +kernel
theorem dX3_standsAt_43 : decode cX3_standsAt 43 = .ok (.iconst 0, 1) := by decide +kernel
theorem dX3_standsAt_44 : decode cX3_standsAt 44 = .ok (.istore 6, 2) := by decide +kernel
theorem dX3_standsAt_46 : decode cX3_standsAt 46 = .ok (.iconst 0, 1) := by decide +kernel
theorem dX3_standsAt_47 : decode cX3_standsAt 47 = .ok (.istore 7, 2) := by decide +kernel
theorem dX3_standsAt_49 : decode cX3_standsAt 49 = .ok (.iload 7, 2) := by decide +kernel
theorem dX3_standsAt_51 : decode cX3_standsAt 51 = .ok (.iload 5, 2) := by decide +kernel
theorem dX3_standsAt_53 : decode cX3_standsAt 53 = .ok (.aload_n 0, 1) := by decide +kernel
theorem dX3_standsAt_54 : decode cX3_standsAt 54 = .ok (.getfield 68, 3) := by decide +kernel
theorem dX3_standsAt_57 : decode cX3_standsAt 57 = .ok (.iload_n 1, 1) := by decide +kernel
theorem dX3_standsAt_58 : decode cX3_standsAt 58 = .ok (.iaload, 1) := by decide +kernel
theorem dX3_standsAt_59 : decode cX3_standsAt 59 = .ok (.imul, 1) := by decide +kernel
theorem dX3_standsAt_60 : decode cX3_standsAt 60 = .ok (.if_icmp .ge 56, 3) := by decide +kernel
theorem dX3_standsAt_63 : decode cX3_standsAt 63 = .ok (.iload 6, 2) := by decide +kernel
theorem dX3_standsAt_65 : decode cX3_standsAt 65 = .ok (.ifCond .eq 51, 3) := by decide +kernel
theorem dX3_standsAt_68 : decode cX3_standsAt 68 = .ok (.aload_n 0, 1) := by decide +kernel
theorem dX3_standsAt_69 : decode cX3_standsAt 69 = .ok (.getfield 71, 3) := by decide +kernel
theorem dX3_standsAt_72 : decode cX3_standsAt 72 = .ok (.bipush 9, 2) := by decide +kernel
theorem dX3_standsAt_74 : decode cX3_standsAt 74 = .ok (.iload_n 1, 1) := by decide +kernel
theorem dX3_standsAt_75 : decode cX3_standsAt 75 = .ok (.imul, 1) := by decide +kernel
theorem dX3_standsAt_76 : decode cX3_standsAt 76 = .ok (.iload 7, 2) := by decide +kernel
theorem dX3_standsAt_78 : decode cX3_standsAt 78 = .ok (.iadd, 1) := by decide +kernel
theorem dX3_standsAt_79 : decode cX3_standsAt 79 = .ok (.iaload, 1) := by decide +kernel
theorem dX3_standsAt_80 : decode cX3_standsAt 80 = .ok (.aload_n 0, 1) := by decide +kernel
theorem dX3_standsAt_81 : decode cX3_standsAt 81 = .ok (.iload_n 2, 1) := by decide +kernel
theorem dX3_standsAt_82 : decode cX3_standsAt 82 = .ok (.iload_n 3, 1) := by decide +kernel
theorem dX3_standsAt_83 : decode cX3_standsAt 83 = .ok (.iload 7, 2) := by decide +kernel
theorem dX3_standsAt_85 : decode cX3_standsAt 85 = .ok (.iload 5, 2) := by decide +kernel
theorem dX3_standsAt_87 : decode cX3_standsAt 87 = .ok (.irem, 1) := by decide +kernel
theorem dX3_standsAt_88 : decode cX3_standsAt 88 = .ok (.iadd, 1) := by decide +kernel
theorem dX3_standsAt_89 : decode cX3_standsAt 89 = .ok (.iload 4, 2) := by decide +kernel
theorem dX3_standsAt_91 : decode cX3_standsAt 91 = .ok (.iload 7, 2) := by decide +kernel
theorem dX3_standsAt_93 : decode cX3_standsAt 93 = .ok (.iload 5, 2) := by decide +kernel
theorem dX3_standsAt_95 : decode cX3_standsAt 95 = .ok (.idiv, 1) := by decide +kernel
theorem dX3_standsAt_96 : decode cX3_standsAt 96 = .ok (.iadd, 1) := by decide +kernel
theorem dX3_standsAt_97 : decode cX3_standsAt 97 = .ok (.invokevirtual 99, 3) := by decide +kernel
theorem dX3_standsAt_100 : decode cX3_standsAt 100 = .ok (.if_icmp .ne 7, 3) := by decide +kernel
theorem dX3_standsAt_103 : decode cX3_standsAt 103 = .ok (.iconst 1, 1) := by decide +kernel
theorem dX3_standsAt_104 : decode cX3_standsAt 104 = .ok (.goto 4, 3) := by decide +kernel
theorem dX3_standsAt_107 : decode cX3_standsAt 107 = .ok (.iconst 0, 1) := by decide +kernel
theorem dX3_standsAt_108 : decode cX3_standsAt 108 = .ok (.istore 6, 2) := by decide +kernel
theorem dX3_standsAt_110 : decode cX3_standsAt 110 = .ok (.iinc 7 1, 3) := by decide +kernel
theorem dX3_standsAt_113 : decode cX3_standsAt 113 = .ok (.goto (-64), 3) := by decide +kernel
theorem dX3_standsAt_116 : decode cX3_standsAt 116 = .ok (.iload 6, 2) := by decide +kernel
theorem dX3_standsAt_118 : decode cX3_standsAt 118 = .ok (.ireturn, 1) := by decide +kernel
set_option maxRecDepth 20000 in
theorem ggX3_standsIn_X3_standsAt : GoodIn wsX3_standsIn wsX3_standsAt := goodIn_r _ [5, 6, 7, 8, 9, 10, 11, 12, 13, 4, 14, 15, 16, 17, 18, 19, 20, 21, 22, 23, 24, 25, 26, 27, 28, 29, 30, 31, 32, 33, 34, 35, 36, 37, 38, 39, 40, 41] (by decide +kernel) (by decide +kernel)
set_option maxRecDepth 20000 in
theorem gX3_standsIn_X3_standsAt : GoodIn wsX3_standsIn (wsV RX3 140 RX3 yX3_standsAt wsX3_standsAt) := goodIn_app (goodIn_of _ (by decide +kernel)) ggX3_standsIn_X3_standsAt
theorem dX3_standsIn_0 : decode cX3_standsIn 0 = .ok (.iconst 0, 1) := by decide +kernel
theorem dX3_standsIn_1 : decode cX3_standsIn 1 = .ok (.istore_n 3, 1) := by decide +kernel
theorem dX3_standsIn_2 : decode cX3_standsIn 2 = .ok (.iconst 0, 1) := by decide +kernel
theorem dX3_standsIn_3 : decode cX3_standsIn 3 = .ok (.istore 4, 2) := by decide +kernel
theorem dX3_standsIn_5 : decode cX3_standsIn 5 = .ok (.iload 4, 2) := by decide +kernel
theorem dX3_standsIn_7 : decode cX3_standsIn 7 = .ok (.bipush 48, 2) := by decide +kernel
theorem dX3_standsIn_9 : decode cX3_standsIn 9 = .ok (.if_icmp .ge 36, 3) := by decide +kernel
theorem dX3_standsIn_12 : decode cX3_standsIn 12 = .ok (.iload_n 3, 1) := by decide +kernel
theorem dX3_standsIn_13 : decode cX3_standsIn 13 = .ok (.aload_n 0, 1) := by decide +kernel
theorem dX3_standsIn_14 : decode cX3_standsIn 14 = .ok (.iload_n 1, 1) := by decide +kernel
theorem dX3_standsIn_15 : decode cX3_standsIn 15 = .ok (.iload_n 2, 1) := by decide +kernel
theorem dX3_standsIn_16 : decode cX3_standsIn 16 = .ok (.iload 4, 2) := by decide +kernel
theorem dX3_standsIn_18 : decode cX3_standsIn 18 = .ok (.bipush 8, 2) := by decide +kernel
theorem dX3_standsIn_20 : decode cX3_standsIn 20 = .ok (.irem, 1) := by decide +kernel
theorem dX3_standsIn_21 : decode cX3_standsIn 21 = .ok (.iload 4, 2) := by decide +kernel
theorem dX3_standsIn_23 : decode cX3_standsIn 23 = .ok (.bipush 8, 2) := by decide +kernel
theorem dX3_standsIn_25 : decode cX3_standsIn 25 = .ok (.idiv, 1) := by decide +kernel
theorem dX3_standsIn_26 : decode cX3_standsIn 26 = .ok (.invokevirtual 140, 3) := by decide +kernel
theorem dX3_standsIn_29 : decode cX3_standsIn 29 = .ok (.ifCond .eq 7, 3) := by decide +kernel
theorem dX3_standsIn_32 : decode cX3_standsIn 32 = .ok (.iconst 1, 1) := by decide +kernel
theorem dX3_standsIn_33 : decode cX3_standsIn 33 = .ok (.goto 4, 3) := by decide +kernel
theorem dX3_standsIn_36 : decode cX3_standsIn 36 = .ok (.iconst 0, 1) := by decide +kernel
theorem dX3_standsIn_37 : decode cX3_standsIn 37 = .ok (.iadd, 1) := by decide +kernel
theorem dX3_standsIn_38 : decode cX3_standsIn 38 = .ok (.istore_n 3, 1) := by decide +kernel
theorem dX3_standsIn_39 : decode cX3_standsIn 39 = .ok (.iinc 4 1, 3) := by decide +kernel
theorem dX3_standsIn_42 : decode cX3_standsIn 42 = .ok (.goto (-37), 3) := by decide +kernel
theorem dX3_standsIn_45 : decode cX3_standsIn 45 = .ok (.iload_n 3, 1) := by decide +kernel
theorem dX3_standsIn_46 : decode cX3_standsIn 46 = .ok (.ireturn, 1) := by decide +kernel
set_option maxRecDepth 20000 in
theorem ggX3_stands_X3_isIn : GoodIn wsX3_stands wsX3_isIn := goodIn_r _ [6] (by decide +kernel) (by decide +kernel)
set_option maxRecDepth 20000 in
theorem gX3_stands_X3_isIn : GoodIn wsX3_stands (va_wsS RX3 84 yX3_isIn wsX3_isIn) := goodIn_app (goodIn_of _ (by decide +kernel)) ggX3_stands_X3_isIn
set_option maxRecDepth 20000 in
theorem ggX3_stands_X3_isPattern : GoodIn wsX3_stands wsX3_isPattern := goodIn_r _ [10, 11, 3, 4, 5, 6, 30, 31, 32, 33, 34, 35, 36, 37, 38, 39, 40, 41, 42, 43, 44, 45, 46, 47, 48, 49, 50, 51, 52, 53, 54, 55] (by decide +kernel) (by decide +kernel)
set_option maxRecDepth 20000 in
theorem gX3_stands_X3_isPattern : GoodIn wsX3_stands (wsV RX3 118 RX3 yX3_isPattern wsX3_isPattern) := goodIn_app (goodIn_of _ (by decide +kernel)) ggX3_stands_X3_isPattern
set_option maxRecDepth 20000 in
theorem ggX3_stands_X3_standsIn : GoodIn wsX3_stands wsX3_standsIn := goodIn_r _ [15, 16, 17, 18, 5, 19, 20, 21, 22, 23, 24, 25, 26, 27, 28, 29, 30, 31, 32, 33, 34, 35, 36, 37, 38, 39, 40, 41, 42, 43, 44, 45, 46, 47, 48, 49, 50, 51, 52, 53, 54, 55] (by decide +kernel) (by decide +kernel)
set_option maxRecDepth 20000 in
theorem gX3_stands_X3_standsIn : GoodIn wsX3_stands (wsV RX3 144 RX3 yX3_standsIn wsX3_standsIn) := goodIn_app (goodIn_of _ (by decide +kernel)) ggX3_stands_X3_standsIn
theorem dX3_stands_0 : decode cX3_stands 0 = .ok (.aload_n 0, 1) := by decide +kernel
theorem dX3_stands_1 : decode cX3_stands 1 = .ok (.iload_n 1, 1) := by decide +kernel
theorem dX3_stands_2 : decode cX3_stands 2 = .ok (.iconst 0, 1) := by decide +kernel
theorem dX3_stands_3 : decode cX3_stands 3 = .ok (.aload_n 0, 1) := by decide +kernel
theorem dX3_stands_4 : decode cX3_stands 4 = .ok (.getfield 137, 3) := by decide +kernel
theorem dX3_stands_7 : decode cX3_stands 7 = .ok (.iconst 1, 1) := by decide +kernel
theorem dX3_stands_8 : decode cX3_stands 8 = .ok (.isub, 1) := by decide +kernel
theorem dX3_stands_9 : decode cX3_stands 9 = .ok (.invokestatic 84, 3) := by decide +kernel
theorem dX3_stands_12 : decode cX3_stands 12 = .ok (.ifCond .eq 15, 3) := by decide +kernel
theorem dX3_stands_15 : decode cX3_stands 15 = .ok (.aload_n 0, 1) := by decide +kernel
theorem dX3_stands_16 : decode cX3_stands 16 = .ok (.iload_n 2, 1) := by decide +kernel
theorem dX3_stands_17 : decode cX3_stands 17 = .ok (.invokevirtual 118, 3) := by decide +kernel
theorem dX3_stands_20 : decode cX3_stands 20 = .ok (.ifCond .eq 7, 3) := by decide +kernel
theorem dX3_stands_23 : decode cX3_stands 23 = .ok (.iconst 0, 1) := by decide +kernel
theorem dX3_stands_24 : decode cX3_stands 24 = .ok (.goto 4, 3) := by decide +kernel
theorem dX3_stands_27 : decode cX3_stands 27 = .ok (.iconst 1, 1) := by decide +kernel
theorem dX3_stands_28 : decode cX3_stands 28 = .ok (.putfield 81, 3) := by decide +kernel
theorem dX3_stands_31 : decode cX3_stands 31 = .ok (.aload_n 0, 1) := by decide +kernel
theorem dX3_stands_32 : decode cX3_stands 32 = .ok (.getfield 81, 3) := by decide +kernel
theorem dX3_stands_35 : decode cX3_stands 35 = .ok (.ifCond .le 7, 3) := by decide +kernel
theorem dX3_stands_38 : decode cX3_stands 38 = .ok (.iconst 0, 1) := by decide +kernel
theorem dX3_stands_39 : decode cX3_stands 39 = .ok (.goto 9, 3) := by decide +kernel
theorem dX3_stands_42 : decode cX3_stands 42 = .ok (.aload_n 0, 1) := by decide +kernel
theorem dX3_stands_43 : decode cX3_stands 43 = .ok (.iload_n 1, 1) := by decide +kernel
theorem dX3_stands_44 : decode cX3_stands 44 = .ok (.iload_n 2, 1) := by decide +kernel
theorem dX3_stands_45 : decode cX3_stands 45 = .ok (.invokevirtual 144, 3) := by decide +kernel
theorem dX3_stands_48 : decode cX3_stands 48 = .ok (.ireturn, 1) := by decide +kernel
set_option maxRecDepth 20000 in
theorem ggX3_storyOf_X3_standsIn : GoodIn wsX3_storyOf wsX3_standsIn := goodIn_r _ [7, 8, 9, 10, 6, 11, 12, 13, 14, 15, 16, 17, 18, 19, 20, 21, 22, 23, 24, 25, 26, 27, 28, 29, 30, 31, 32, 33, 34, 35, 36, 37, 38, 39, 40, 41, 42, 43, 44, 45, 46, 47] (by decide +kernel) (by decide +kernel)
set_option maxRecDepth 20000 in
theorem gX3_storyOf_X3_standsIn : GoodIn wsX3_storyOf (wsV RX3 144 RX3 yX3_standsIn wsX3_standsIn) := goodIn_app (goodIn_of _ (by decide +kernel)) ggX3_storyOf_X3_standsIn
theorem dX3_storyOf_0 : decode cX3_storyOf 0 = .ok (.iconst 0, 1) := by decide +kernel
theorem dX3_storyOf_1 : decode cX3_storyOf 1 = .ok (.istore_n 2, 1) := by decide +kernel
theorem dX3_storyOf_2 : decode cX3_storyOf 2 = .ok (.iconst 0, 1) := by decide +kernel
theorem dX3_storyOf_3 : decode cX3_storyOf 3 = .ok (.istore_n 3, 1) := by decide +kernel
theorem dX3_storyOf_4 : decode cX3_storyOf 4 = .ok (.iload_n 3, 1) := by decide +kernel
theorem dX3_storyOf_5 : decode cX3_storyOf 5 = .ok (.aload_n 0, 1) := by decide +kernel
theorem dX3_storyOf_6 : decode cX3_storyOf 6 = .ok (.getfield 137, 3) := by decide +kernel
theorem dX3_storyOf_9 : decode cX3_storyOf 9 = .ok (.if_icmp .ge 25, 3) := by decide +kernel
theorem dX3_storyOf_12 : decode cX3_storyOf 12 = .ok (.iload_n 2, 1) := by decide +kernel
theorem dX3_storyOf_13 : decode cX3_storyOf 13 = .ok (.aload_n 0, 1) := by decide +kernel
theorem dX3_storyOf_14 : decode cX3_storyOf 14 = .ok (.getfield 74, 3) := by decide +kernel
theorem dX3_storyOf_17 : decode cX3_storyOf 17 = .ok (.iload_n 3, 1) := by decide +kernel
theorem dX3_storyOf_18 : decode cX3_storyOf 18 = .ok (.iaload, 1) := by decide +kernel
theorem dX3_storyOf_19 : decode cX3_storyOf 19 = .ok (.aload_n 0, 1) := by decide +kernel
theorem dX3_storyOf_20 : decode cX3_storyOf 20 = .ok (.iload_n 3, 1) := by decide +kernel
theorem dX3_storyOf_21 : decode cX3_storyOf 21 = .ok (.iload_n 1, 1) := by decide +kernel
theorem dX3_storyOf_22 : decode cX3_storyOf 22 = .ok (.invokevirtual 144, 3) := by decide +kernel
theorem dX3_storyOf_25 : decode cX3_storyOf 25 = .ok (.imul, 1) := by decide +kernel
theorem dX3_storyOf_26 : decode cX3_storyOf 26 = .ok (.iadd, 1) := by decide +kernel
theorem dX3_storyOf_27 : decode cX3_storyOf 27 = .ok (.istore_n 2, 1) := by decide +kernel
theorem dX3_storyOf_28 : decode cX3_storyOf 28 = .ok (.iinc 3 1, 3) := by decide +kernel
theorem dX3_storyOf_31 : decode cX3_storyOf 31 = .ok (.goto (-27), 3) := by decide +kernel
theorem dX3_storyOf_34 : decode cX3_storyOf 34 = .ok (.iload_n 2, 1) := by decide +kernel
theorem dX3_storyOf_35 : decode cX3_storyOf 35 = .ok (.ireturn, 1) := by decide +kernel
set_option maxRecDepth 20000 in
theorem ggX3_story_X3_asks : GoodIn wsX3_story wsX3_asks := goodIn_r _ [5, 6, 7, 8, 9, 4, 10, 11, 12, 13, 14, 39, 40, 41, 42, 43, 44, 45, 46, 47, 48, 49, 50, 51, 52, 53, 54, 55, 56, 57, 58, 59, 60, 61, 62, 63, 64] (by decide +kernel) (by decide +kernel)
set_option maxRecDepth 20000 in
theorem gX3_story_X3_asks : GoodIn wsX3_story (wsV RX3 121 RX3 yX3_asks wsX3_asks) := goodIn_app (goodIn_of _ (by decide +kernel)) ggX3_story_X3_asks
set_option maxRecDepth 20000 in
theorem ggX3_story_X3_storyOf : GoodIn wsX3_story wsX3_storyOf := goodIn_r _ [18, 19, 20, 21, 22, 23, 4, 24, 25, 26, 27, 28, 29, 30, 31, 32, 33, 34, 35, 36, 37, 38, 39, 40, 41, 42, 43, 44, 45, 46, 47, 48, 49, 50, 51, 52, 53, 54, 55, 56, 57, 58, 59, 60, 61, 62, 63, 64] (by decide +kernel) (by decide +kernel)
set_option maxRecDepth 20000 in
theorem gX3_story_X3_storyOf : GoodIn wsX3_story (wsV RX3 147 RX3 yX3_storyOf wsX3_storyOf) := goodIn_app (goodIn_of _ (by decide +kernel)) ggX3_story_X3_storyOf
theorem dX3_story_0 : decode cX3_story 0 = .ok (.aload_n 0, 1) := by decide +kernel
theorem dX3_story_1 : decode cX3_story 1 = .ok (.iload_n 1, 1) := by decide +kernel
theorem dX3_story_2 : decode cX3_story 2 = .ok (.invokevirtual 121, 3) := by decide +kernel
theorem dX3_story_5 : decode cX3_story 5 = .ok (.ifCond .eq 11, 3) := by decide +kernel
theorem dX3_story_8 : decode cX3_story 8 = .ok (.aload_n 0, 1) := by decide +kernel
theorem dX3_story_9 : decode cX3_story 9 = .ok (.iload_n 1, 1) := by decide +kernel
theorem dX3_story_10 : decode cX3_story 10 = .ok (.invokevirtual 147, 3) := by decide +kernel
theorem dX3_story_13 : decode cX3_story 13 = .ok (.goto 4, 3) := by decide +kernel
theorem dX3_story_16 : decode cX3_story 16 = .ok (.iconst 0, 1) := by decide +kernel
theorem dX3_story_17 : decode cX3_story 17 = .ok (.ireturn, 1) := by decide +kernel
set_option maxRecDepth 20000 in
theorem ggX3_hear_X3_isBelt : GoodIn wsX3_hear wsX3_isBelt := goodIn_r _ [8, 3, 9, 10, 7, 11, 39, 40, 41, 42, 43, 44, 45, 46, 47, 48, 49, 50, 51, 52, 53, 54, 55, 56, 57, 58, 59, 60, 61, 62, 63, 64] (by decide +kernel) (by decide +kernel)
set_option maxRecDepth 20000 in
theorem gX3_hear_X3_isBelt : GoodIn wsX3_hear (wsV RX3 103 RX3 yX3_isBelt wsX3_isBelt) := goodIn_app (goodIn_of _ (by decide +kernel)) ggX3_hear_X3_isBelt
set_option maxRecDepth 20000 in
theorem ggX3_hear_X3_isPerson : GoodIn wsX3_hear wsX3_isPerson := goodIn_r _ [14, 9, 10, 7, 11] (by decide +kernel) (by decide +kernel)
set_option maxRecDepth 20000 in
theorem gX3_hear_X3_isPerson : GoodIn wsX3_hear (va_wsS RX3 91 yX3_isPerson wsX3_isPerson) := goodIn_app (goodIn_of _ (by decide +kernel)) ggX3_hear_X3_isPerson
set_option maxRecDepth 20000 in
theorem ggX3_hear_X3_storyOf : GoodIn wsX3_hear wsX3_storyOf := goodIn_r _ [18, 19, 20, 21, 22, 23, 7, 24, 25, 26, 27, 28, 29, 30, 31, 32, 33, 34, 35, 36, 37, 38, 39, 40, 41, 42, 43, 44, 45, 46, 47, 48, 49, 50, 51, 52, 53, 54, 55, 56, 57, 58, 59, 60, 61, 62, 63, 64] (by decide +kernel) (by decide +kernel)
set_option maxRecDepth 20000 in
theorem gX3_hear_X3_storyOf : GoodIn wsX3_hear (wsV RX3 147 RX3 yX3_storyOf wsX3_storyOf) := goodIn_app (goodIn_of _ (by decide +kernel)) ggX3_hear_X3_storyOf
theorem dX3_hear_0 : decode cX3_hear 0 = .ok (.aload_n 0, 1) := by decide +kernel
theorem dX3_hear_1 : decode cX3_hear 1 = .ok (.aload_n 0, 1) := by decide +kernel
theorem dX3_hear_2 : decode cX3_hear 2 = .ok (.iload_n 1, 1) := by decide +kernel
theorem dX3_hear_3 : decode cX3_hear 3 = .ok (.invokevirtual 103, 3) := by decide +kernel
theorem dX3_hear_6 : decode cX3_hear 6 = .ok (.ifCond .eq 14, 3) := by decide +kernel
theorem dX3_hear_9 : decode cX3_hear 9 = .ok (.iload_n 2, 1) := by decide +kernel
theorem dX3_hear_10 : decode cX3_hear 10 = .ok (.invokestatic 91, 3) := by decide +kernel
theorem dX3_hear_13 : decode cX3_hear 13 = .ok (.ifCond .eq 7, 3) := by decide +kernel
theorem dX3_hear_16 : decode cX3_hear 16 = .ok (.iconst 0, 1) := by decide +kernel
theorem dX3_hear_17 : decode cX3_hear 17 = .ok (.goto 4, 3) := by decide +kernel
theorem dX3_hear_20 : decode cX3_hear 20 = .ok (.iconst 1, 1) := by decide +kernel
theorem dX3_hear_21 : decode cX3_hear 21 = .ok (.putfield 81, 3) := by decide +kernel
theorem dX3_hear_24 : decode cX3_hear 24 = .ok (.aload_n 0, 1) := by decide +kernel
theorem dX3_hear_25 : decode cX3_hear 25 = .ok (.getfield 81, 3) := by decide +kernel
theorem dX3_hear_28 : decode cX3_hear 28 = .ok (.ifCond .le 5, 3) := by decide +kernel
theorem dX3_hear_31 : decode cX3_hear 31 = .ok (.lconst 0, 1) := by decide +kernel
theorem dX3_hear_32 : decode cX3_hear 32 = .ok (.lreturn, 1) := by decide +kernel
theorem dX3_hear_33 : decode cX3_hear 33 = .ok (.aload_n 0, 1) := by decide +kernel
theorem dX3_hear_34 : decode cX3_hear 34 = .ok (.getfield 77, 3) := by decide +kernel
theorem dX3_hear_37 : decode cX3_hear 37 = .ok (.iload_n 2, 1) := by decide +kernel
theorem dX3_hear_38 : decode cX3_hear 38 = .ok (.dup2, 1) := by decide +kernel
theorem dX3_hear_39 : decode cX3_hear 39 = .ok (.laload, 1) := by decide +kernel
theorem dX3_hear_40 : decode cX3_hear 40 = .ok (.aload_n 0, 1) := by decide +kernel
theorem dX3_hear_41 : decode cX3_hear 41 = .ok (.aload_n 0, 1) := by decide +kernel
theorem dX3_hear_42 : decode cX3_hear 42 = .ok (.getfield 44, 3) := by decide +kernel
theorem dX3_hear_45 : decode cX3_hear 45 = .ok (.iload_n 1, 1) := by decide +kernel
theorem dX3_hear_46 : decode cX3_hear 46 = .ok (.iaload, 1) := by decide +kernel
theorem dX3_hear_47 : decode cX3_hear 47 = .ok (.invokevirtual 147, 3) := by decide +kernel
theorem dX3_hear_50 : decode cX3_hear 50 = .ok (.i2l, 1) := by decide +kernel
theorem dX3_hear_51 : decode cX3_hear 51 = .ok (.ladd, 1) := by decide +kernel
theorem dX3_hear_52 : decode cX3_hear 52 = .ok (.lastore, 1) := by decide +kernel
theorem dX3_hear_53 : decode cX3_hear 53 = .ok (.aload_n 0, 1) := by decide +kernel
theorem dX3_hear_54 : decode cX3_hear 54 = .ok (.getfield 77, 3) := by decide +kernel
theorem dX3_hear_57 : decode cX3_hear 57 = .ok (.iload_n 2, 1) := by decide +kernel
theorem dX3_hear_58 : decode cX3_hear 58 = .ok (.laload, 1) := by decide +kernel
theorem dX3_hear_59 : decode cX3_hear 59 = .ok (.lreturn, 1) := by decide +kernel
set_option maxRecDepth 20000 in
theorem ggX3_ranked_X3_isIn : GoodIn wsX3_ranked wsX3_isIn := goodIn_r _ [6] (by decide +kernel) (by decide +kernel)
set_option maxRecDepth 20000 in
theorem gX3_ranked_X3_isIn : GoodIn wsX3_ranked (va_wsS RX3 84 yX3_isIn wsX3_isIn) := goodIn_app (goodIn_of _ (by decide +kernel)) ggX3_ranked_X3_isIn
theorem dX3_ranked_0 : decode cX3_ranked 0 = .ok (.aload_n 0, 1) := by decide +kernel
theorem dX3_ranked_1 : decode cX3_ranked 1 = .ok (.iload_n 1, 1) := by decide +kernel
theorem dX3_ranked_2 : decode cX3_ranked 2 = .ok (.iconst 0, 1) := by decide +kernel
theorem dX3_ranked_3 : decode cX3_ranked 3 = .ok (.bipush 6, 2) := by decide +kernel
theorem dX3_ranked_5 : decode cX3_ranked 5 = .ok (.invokestatic 84, 3) := by decide +kernel
theorem dX3_ranked_8 : decode cX3_ranked 8 = .ok (.ifCond .eq 7, 3) := by decide +kernel
theorem dX3_ranked_11 : decode cX3_ranked 11 = .ok (.iconst 0, 1) := by decide +kernel
theorem dX3_ranked_12 : decode cX3_ranked 12 = .ok (.goto 4, 3) := by decide +kernel
theorem dX3_ranked_15 : decode cX3_ranked 15 = .ok (.iconst 1, 1) := by decide +kernel
theorem dX3_ranked_16 : decode cX3_ranked 16 = .ok (.putfield 81, 3) := by decide +kernel
theorem dX3_ranked_19 : decode cX3_ranked 19 = .ok (.iconst 0, 1) := by decide +kernel
theorem dX3_ranked_20 : decode cX3_ranked 20 = .ok (.istore_n 2, 1) := by decide +kernel
theorem dX3_ranked_21 : decode cX3_ranked 21 = .ok (.iconst 0, 1) := by decide +kernel
theorem dX3_ranked_22 : decode cX3_ranked 22 = .ok (.istore_n 3, 1) := by decide +kernel
theorem dX3_ranked_23 : decode cX3_ranked 23 = .ok (.iload_n 3, 1) := by decide +kernel
theorem dX3_ranked_24 : decode cX3_ranked 24 = .ok (.bipush 7, 2) := by decide +kernel
theorem dX3_ranked_26 : decode cX3_ranked 26 = .ok (.if_icmp .ge 90, 3) := by decide +kernel
theorem dX3_ranked_29 : decode cX3_ranked 29 = .ok (.iconst 0, 1) := by decide +kernel
theorem dX3_ranked_30 : decode cX3_ranked 30 = .ok (.istore 4, 2) := by decide +kernel
theorem dX3_ranked_32 : decode cX3_ranked 32 = .ok (.iconst 0, 1) := by decide +kernel
theorem dX3_ranked_33 : decode cX3_ranked 33 = .ok (.istore 5, 2) := by decide +kernel
theorem dX3_ranked_35 : decode cX3_ranked 35 = .ok (.iload 5, 2) := by decide +kernel
theorem dX3_ranked_37 : decode cX3_ranked 37 = .ok (.bipush 7, 2) := by decide +kernel
theorem dX3_ranked_39 : decode cX3_ranked 39 = .ok (.if_icmp .ge 59, 3) := by decide +kernel
theorem dX3_ranked_42 : decode cX3_ranked 42 = .ok (.iload 4, 2) := by decide +kernel
theorem dX3_ranked_44 : decode cX3_ranked 44 = .ok (.aload_n 0, 1) := by decide +kernel
theorem dX3_ranked_45 : decode cX3_ranked 45 = .ok (.getfield 77, 3) := by decide +kernel
theorem dX3_ranked_48 : decode cX3_ranked 48 = .ok (.iload 5, 2) := by decide +kernel
theorem dX3_ranked_50 : decode cX3_ranked 50 = .ok (.laload, 1) := by decide +kernel
theorem dX3_ranked_51 : decode cX3_ranked 51 = .ok (.aload_n 0, 1) := by decide +kernel
theorem dX3_ranked_52 : decode cX3_ranked 52 = .ok (.getfield 77, 3) := by decide +kernel
theorem dX3_ranked_55 : decode cX3_ranked 55 = .ok (.iload_n 3, 1) := by decide +kernel
theorem dX3_ranked_56 : decode cX3_ranked 56 = .ok (.laload, 1) := by decide +kernel
theorem dX3_ranked_57 : decode cX3_ranked 57 = .ok (.lcmp, 1) := by decide +kernel
theorem dX3_ranked_58 : decode cX3_ranked 58 = .ok (.ifCond .gt 26, 3) := by decide +kernel
theorem dX3_ranked_61 : decode cX3_ranked 61 = .ok (.aload_n 0, 1) := by decide +kernel
theorem dX3_ranked_62 : decode cX3_ranked 62 = .ok (.getfield 77, 3) := by decide +kernel
theorem dX3_ranked_65 : decode cX3_ranked 65 = .ok (.iload 5, 2) := by decide +kernel
theorem dX3_ranked_67 : decode cX3_ranked 67 = .ok (.laload, 1) := by decide +kernel
theorem dX3_ranked_68 : decode cX3_ranked 68 = .ok (.aload_n 0, 1) := by decide +kernel
theorem dX3_ranked_69 : decode cX3_ranked 69 = .ok (.getfield 77, 3) := by decide +kernel
theorem dX3_ranked_72 : decode cX3_ranked 72 = .ok (.iload_n 3, 1) := by decide +kernel
theorem dX3_ranked_73 : decode cX3_ranked 73 = .ok (.laload, 1) := by decide +kernel
theorem dX3_ranked_74 : decode cX3_ranked 74 = .ok (.lcmp, 1) := by decide +kernel
theorem dX3_ranked_75 : decode cX3_ranked 75 = .ok (.ifCond .ne 13, 3) := by decide +kernel
theorem dX3_ranked_78 : decode cX3_ranked 78 = .ok (.iload 5, 2) := by decide +kernel
theorem dX3_ranked_80 : decode cX3_ranked 80 = .ok (.iload_n 3, 1) := by decide +kernel
theorem dX3_ranked_81 : decode cX3_ranked 81 = .ok (.if_icmp .ge 7, 3) := by decide +kernel
theorem dX3_ranked_84 : decode cX3_ranked 84 = .ok (.iconst 1, 1) := by decide +kernel
theorem dX3_ranked_85 : decode cX3_ranked 85 = .ok (.goto 4, 3) := by decide +kernel
theorem dX3_ranked_88 : decode cX3_ranked 88 = .ok (.iconst 0, 1) := by decide +kernel
theorem dX3_ranked_89 : decode cX3_ranked 89 = .ok (.iadd, 1) := by decide +kernel
theorem dX3_ranked_90 : decode cX3_ranked 90 = .ok (.istore 4, 2) := by decide +kernel
theorem dX3_ranked_92 : decode cX3_ranked 92 = .ok (.iinc 5 1, 3) := by decide +kernel
theorem dX3_ranked_95 : decode cX3_ranked 95 = .ok (.goto (-60), 3) := by decide +kernel
theorem dX3_ranked_98 : decode cX3_ranked 98 = .ok (.iload 4, 2) := by decide +kernel
theorem dX3_ranked_100 : decode cX3_ranked 100 = .ok (.iload_n 1, 1) := by decide +kernel
theorem dX3_ranked_101 : decode cX3_ranked 101 = .ok (.if_icmp .ne 7, 3) := by decide +kernel
theorem dX3_ranked_104 : decode cX3_ranked 104 = .ok (.iload_n 3, 1) := by decide +kernel
theorem dX3_ranked_105 : decode cX3_ranked 105 = .ok (.goto 4, 3) := by decide +kernel
theorem dX3_ranked_108 : decode cX3_ranked 108 = .ok (.iload_n 2, 1) := by decide +kernel
theorem dX3_ranked_109 : decode cX3_ranked 109 = .ok (.istore_n 2, 1) := by decide +kernel
theorem dX3_ranked_110 : decode cX3_ranked 110 = .ok (.iinc 3 1, 3) := by decide +kernel
theorem dX3_ranked_113 : decode cX3_ranked 113 = .ok (.goto (-90), 3) := by decide +kernel
theorem dX3_ranked_116 : decode cX3_ranked 116 = .ok (.aload_n 0, 1) := by decide +kernel
theorem dX3_ranked_117 : decode cX3_ranked 117 = .ok (.getfield 81, 3) := by decide +kernel
theorem dX3_ranked_120 : decode cX3_ranked 120 = .ok (.ifCond .le 7, 3) := by decide +kernel
theorem dX3_ranked_123 : decode cX3_ranked 123 = .ok (.iconst 0, 1) := by decide +kernel
theorem dX3_ranked_124 : decode cX3_ranked 124 = .ok (.goto 4, 3) := by decide +kernel
theorem dX3_ranked_127 : decode cX3_ranked 127 = .ok (.iload_n 2, 1) := by decide +kernel
theorem dX3_ranked_128 : decode cX3_ranked 128 = .ok (.ireturn, 1) := by decide +kernel
end
section
theorem dJ9_max_7cf53_0 : decode cJ9_max_7cf53 0 = .ok (.iload_n 0, 1) := by decide +kernel
theorem dJ9_max_7cf53_1 : decode cJ9_max_7cf53 1 = .ok (.iload_n 1, 1) := by decide +kernel
theorem dJ9_max_7cf53_2 : decode cJ9_max_7cf53 2 = .ok (.if_icmp .lt 7, 3) := by decide +kernel
theorem dJ9_max_7cf53_5 : decode cJ9_max_7cf53 5 = .ok (.iload_n 0, 1) := by decide +kernel
theorem dJ9_max_7cf53_6 : decode cJ9_max_7cf53 6 = .ok (.goto 4, 3) := by decide +kernel
theorem dJ9_max_7cf53_9 : decode cJ9_max_7cf53 9 = .ok (.iload_n 1, 1) := by decide +kernel
theorem dJ9_max_7cf53_10 : decode cJ9_max_7cf53 10 = .ok (.ireturn, 1) := by decide +kernel
theorem dJ7_fill_53178_0 : decode cJ7_fill_53178 0 = .ok (.iconst 0, 1) := by decide +kernel
theorem dJ7_fill_53178_1 : decode cJ7_fill_53178 1 = .ok (.istore_n 2, 1) := by decide +kernel
theorem dJ7_fill_53178_2 : decode cJ7_fill_53178 2 = .ok (.aload_n 0, 1) := by decide +kernel
theorem dJ7_fill_53178_3 : decode cJ7_fill_53178 3 = .ok (.arraylength, 1) := by decide +kernel
theorem dJ7_fill_53178_4 : decode cJ7_fill_53178 4 = .ok (.istore_n 3, 1) := by decide +kernel
theorem dJ7_fill_53178_5 : decode cJ7_fill_53178 5 = .ok (.iload_n 2, 1) := by decide +kernel
theorem dJ7_fill_53178_6 : decode cJ7_fill_53178 6 = .ok (.iload_n 3, 1) := by decide +kernel
theorem dJ7_fill_53178_7 : decode cJ7_fill_53178 7 = .ok (.if_icmp .ge 13, 3) := by decide +kernel
theorem dJ7_fill_53178_10 : decode cJ7_fill_53178 10 = .ok (.aload_n 0, 1) := by decide +kernel
theorem dJ7_fill_53178_11 : decode cJ7_fill_53178 11 = .ok (.iload_n 2, 1) := by decide +kernel
theorem dJ7_fill_53178_12 : decode cJ7_fill_53178 12 = .ok (.iload_n 1, 1) := by decide +kernel
theorem dJ7_fill_53178_13 : decode cJ7_fill_53178 13 = .ok (.iastore, 1) := by decide +kernel
theorem dJ7_fill_53178_14 : decode cJ7_fill_53178 14 = .ok (.iinc 2 1, 3) := by decide +kernel
theorem dJ7_fill_53178_17 : decode cJ7_fill_53178 17 = .ok (.goto (-12), 3) := by decide +kernel
theorem dJ7_fill_53178_20 : decode cJ7_fill_53178 20 = .ok (.return_, 1) := by decide +kernel
set_option maxRecDepth 20000 in
theorem ggL_bring_X2_bring : GoodIn wsL_bring wsX2_bring := goodIn_ca (goodIn_ca (goodIn_ca (goodIn_r _ [8, 9, 10, 11, 12, 13, 14, 15, 7, 16, 17, 18, 19, 20, 21, 22, 23, 24, 25, 26, 27, 28, 29, 30, 31, 32, 33, 34, 35, 36, 37, 38, 39, 40, 41] (by decide +kernel) (by decide +kernel)) (goodIn_sub (fun _ h => List.mem_cons_of_mem _ (List.mem_append_left _ (List.mem_append_left _ (List.mem_append_right _ h)))) (by decide +kernel))) (goodIn_sub (fun _ h => List.mem_cons_of_mem _ (List.mem_append_left _ (List.mem_append_right _ h))) (by decide +kernel))) (goodIn_sub (fun _ h => List.mem_cons_of_mem _ (List.mem_append_right _ h)) (by decide +kernel))
set_option maxRecDepth 20000 in
theorem gL_bring_X2_bring : GoodIn wsL_bring (wsV RL 7 RX2 yX2_bring wsX2_bring) := goodIn_app (goodIn_of _ (by decide +kernel)) ggL_bring_X2_bring
theorem dL_bring_0 : decode cL_bring 0 = .ok (.aload 4, 2) := by decide +kernel
theorem dL_bring_2 : decode cL_bring 2 = .ok (.iconst 0, 1) := by decide +kernel
theorem dL_bring_3 : decode cL_bring 3 = .ok (.aload_n 0, 1) := by decide +kernel
theorem dL_bring_4 : decode cL_bring 4 = .ok (.iload_n 1, 1) := by decide +kernel
theorem dL_bring_5 : decode cL_bring 5 = .ok (.iload_n 2, 1) := by decide +kernel
theorem dL_bring_6 : decode cL_bring 6 = .ok (.iload_n 3, 1) := by decide +kernel
theorem dL_bring_7 : decode cL_bring 7 = .ok (.invokevirtual 7, 3) := by decide +kernel
theorem dL_bring_10 : decode cL_bring 10 = .ok (.i2l, 1) := by decide +kernel
theorem dL_bring_11 : decode cL_bring 11 = .ok (.lastore, 1) := by decide +kernel
theorem dL_bring_12 : decode cL_bring 12 = .ok (.goto 15, 3) := by decide +kernel
theorem dL_bring_15 : decode cL_bring 15 = .ok (.astore 5, 2) := by decide +kernel
theorem dL_bring_17 : decode cL_bring 17 = .ok (.iconst 1, 1) := by decide +kernel
theorem dL_bring_18 : decode cL_bring 18 = .ok (.ireturn, 1) := by decide +kernel
theorem dL_bring_19 : decode cL_bring 19 = .ok (.astore 5, 2) := by decide +kernel
theorem dL_bring_21 : decode cL_bring 21 = .ok (.iconst 2, 1) := by decide +kernel
theorem dL_bring_22 : decode cL_bring 22 = .ok (.ireturn, 1) := by decide +kernel
theorem dL_bring_23 : decode cL_bring 23 = .ok (.astore 5, 2) := by decide +kernel
theorem dL_bring_25 : decode cL_bring 25 = .ok (.iconst 3, 1) := by decide +kernel
theorem dL_bring_26 : decode cL_bring 26 = .ok (.ireturn, 1) := by decide +kernel
theorem dL_bring_27 : decode cL_bring 27 = .ok (.iconst 0, 1) := by decide +kernel
theorem dL_bring_28 : decode cL_bring 28 = .ok (.ireturn, 1) := by decide +kernel
set_option maxRecDepth 20000 in
theorem ggL_lay_X2_lay : GoodIn wsL_lay wsX2_lay := goodIn_ca (goodIn_ca (goodIn_ca (goodIn_r _ [8, 9, 10, 11, 12, 13, 14, 15, 7, 16, 17, 18, 19, 20, 21, 22, 23, 24, 25, 26, 27, 28, 29, 30, 31, 32, 33, 34, 35, 36, 37, 38, 39, 40, 41] (by decide +kernel) (by decide +kernel)) (goodIn_sub (fun _ h => List.mem_cons_of_mem _ (List.mem_append_left _ (List.mem_append_left _ (List.mem_append_right _ h)))) (by decide +kernel))) (goodIn_sub (fun _ h => List.mem_cons_of_mem _ (List.mem_append_left _ (List.mem_append_right _ h))) (by decide +kernel))) (goodIn_sub (fun _ h => List.mem_cons_of_mem _ (List.mem_append_right _ h)) (by decide +kernel))
set_option maxRecDepth 20000 in
theorem gL_lay_X2_lay : GoodIn wsL_lay (wsV RL 19 RX2 yX2_lay wsX2_lay) := goodIn_app (goodIn_of _ (by decide +kernel)) ggL_lay_X2_lay
theorem dL_lay_0 : decode cL_lay 0 = .ok (.aload 4, 2) := by decide +kernel
theorem dL_lay_2 : decode cL_lay 2 = .ok (.iconst 0, 1) := by decide +kernel
theorem dL_lay_3 : decode cL_lay 3 = .ok (.aload_n 0, 1) := by decide +kernel
theorem dL_lay_4 : decode cL_lay 4 = .ok (.iload_n 1, 1) := by decide +kernel
theorem dL_lay_5 : decode cL_lay 5 = .ok (.iload_n 2, 1) := by decide +kernel
theorem dL_lay_6 : decode cL_lay 6 = .ok (.iload_n 3, 1) := by decide +kernel
theorem dL_lay_7 : decode cL_lay 7 = .ok (.invokevirtual 19, 3) := by decide +kernel
theorem dL_lay_10 : decode cL_lay 10 = .ok (.i2l, 1) := by decide +kernel
theorem dL_lay_11 : decode cL_lay 11 = .ok (.lastore, 1) := by decide +kernel
theorem dL_lay_12 : decode cL_lay 12 = .ok (.goto 15, 3) := by decide +kernel
theorem dL_lay_15 : decode cL_lay 15 = .ok (.astore 5, 2) := by decide +kernel
theorem dL_lay_17 : decode cL_lay 17 = .ok (.iconst 1, 1) := by decide +kernel
theorem dL_lay_18 : decode cL_lay 18 = .ok (.ireturn, 1) := by decide +kernel
theorem dL_lay_19 : decode cL_lay 19 = .ok (.astore 5, 2) := by decide +kernel
theorem dL_lay_21 : decode cL_lay 21 = .ok (.iconst 2, 1) := by decide +kernel
theorem dL_lay_22 : decode cL_lay 22 = .ok (.ireturn, 1) := by decide +kernel
theorem dL_lay_23 : decode cL_lay 23 = .ok (.astore 5, 2) := by decide +kernel
theorem dL_lay_25 : decode cL_lay 25 = .ok (.iconst 3, 1) := by decide +kernel
theorem dL_lay_26 : decode cL_lay 26 = .ok (.ireturn, 1) := by decide +kernel
theorem dL_lay_27 : decode cL_lay 27 = .ok (.iconst 0, 1) := by decide +kernel
theorem dL_lay_28 : decode cL_lay 28 = .ok (.ireturn, 1) := by decide +kernel
set_option maxRecDepth 20000 in
theorem ggL_hand_X2_hand : GoodIn wsL_hand wsX2_hand := goodIn_ca (goodIn_r _ [6, 7, 8, 9, 5, 10, 11, 12, 13, 14, 15, 16, 17, 18, 19, 20, 21, 22, 23, 24, 25, 26, 27, 28, 29, 30] (by decide +kernel) (by decide +kernel)) (goodIn_sub (fun _ h => List.mem_cons_of_mem _ (List.mem_append_right _ h)) (by decide +kernel))
set_option maxRecDepth 20000 in
theorem gL_hand_X2_hand : GoodIn wsL_hand (wsV RL 22 RX2 yX2_hand wsX2_hand) := goodIn_app (goodIn_of _ (by decide +kernel)) ggL_hand_X2_hand
theorem dL_hand_0 : decode cL_hand 0 = .ok (.aload_n 3, 1) := by decide +kernel
theorem dL_hand_1 : decode cL_hand 1 = .ok (.iconst 0, 1) := by decide +kernel
theorem dL_hand_2 : decode cL_hand 2 = .ok (.aload_n 0, 1) := by decide +kernel
theorem dL_hand_3 : decode cL_hand 3 = .ok (.iload_n 1, 1) := by decide +kernel
theorem dL_hand_4 : decode cL_hand 4 = .ok (.iload_n 2, 1) := by decide +kernel
theorem dL_hand_5 : decode cL_hand 5 = .ok (.invokevirtual 22, 3) := by decide +kernel
theorem dL_hand_8 : decode cL_hand 8 = .ok (.i2l, 1) := by decide +kernel
theorem dL_hand_9 : decode cL_hand 9 = .ok (.lastore, 1) := by decide +kernel
theorem dL_hand_10 : decode cL_hand 10 = .ok (.goto 7, 3) := by decide +kernel
theorem dL_hand_13 : decode cL_hand 13 = .ok (.astore 4, 2) := by decide +kernel
theorem dL_hand_15 : decode cL_hand 15 = .ok (.iconst 1, 1) := by decide +kernel
theorem dL_hand_16 : decode cL_hand 16 = .ok (.ireturn, 1) := by decide +kernel
theorem dL_hand_17 : decode cL_hand 17 = .ok (.iconst 0, 1) := by decide +kernel
theorem dL_hand_18 : decode cL_hand 18 = .ok (.ireturn, 1) := by decide +kernel
set_option maxRecDepth 20000 in
theorem ggL_beads_X2_beads : GoodIn wsL_beads wsX2_beads := goodIn_ca (goodIn_r _ [6, 7, 8, 9, 10, 11, 12, 5, 13, 14, 15, 16, 17, 18, 19, 20, 21, 22, 23, 24, 25, 26, 27, 28, 29, 30, 31, 32, 33, 34, 35, 36, 37, 38, 39, 40, 41, 42, 43, 44, 45, 46, 47, 48] (by decide +kernel) (by decide +kernel)) (goodIn_sub (fun _ h => List.mem_cons_of_mem _ (List.mem_append_right _ h)) (by decide +kernel))
set_option maxRecDepth 20000 in
theorem gL_beads_X2_beads : GoodIn wsL_beads (wsV RL 26 RX2 yX2_beads wsX2_beads) := goodIn_app (goodIn_of _ (by decide +kernel)) ggL_beads_X2_beads
theorem dL_beads_0 : decode cL_beads 0 = .ok (.aload_n 2, 1) := by decide +kernel
theorem dL_beads_1 : decode cL_beads 1 = .ok (.iconst 0, 1) := by decide +kernel
theorem dL_beads_2 : decode cL_beads 2 = .ok (.aload_n 0, 1) := by decide +kernel
theorem dL_beads_3 : decode cL_beads 3 = .ok (.iload_n 1, 1) := by decide +kernel
theorem dL_beads_4 : decode cL_beads 4 = .ok (.invokevirtual 26, 3) := by decide +kernel
theorem dL_beads_7 : decode cL_beads 7 = .ok (.i2l, 1) := by decide +kernel
theorem dL_beads_8 : decode cL_beads 8 = .ok (.lastore, 1) := by decide +kernel
theorem dL_beads_9 : decode cL_beads 9 = .ok (.goto 6, 3) := by decide +kernel
theorem dL_beads_12 : decode cL_beads 12 = .ok (.astore_n 3, 1) := by decide +kernel
theorem dL_beads_13 : decode cL_beads 13 = .ok (.iconst 1, 1) := by decide +kernel
theorem dL_beads_14 : decode cL_beads 14 = .ok (.ireturn, 1) := by decide +kernel
theorem dL_beads_15 : decode cL_beads 15 = .ok (.iconst 0, 1) := by decide +kernel
theorem dL_beads_16 : decode cL_beads 16 = .ok (.ireturn, 1) := by decide +kernel
set_option maxRecDepth 20000 in
theorem ggL_brought_X2_brought : GoodIn wsL_brought wsX2_brought := goodIn_ca (goodIn_r _ [6, 7, 8, 9, 5, 10, 11, 12, 13, 14, 15, 16, 17, 18, 19, 20, 21, 22, 23, 24, 25, 26, 27] (by decide +kernel) (by decide +kernel)) (goodIn_sub (fun _ h => List.mem_cons_of_mem _ (List.mem_append_right _ h)) (by decide +kernel))
set_option maxRecDepth 20000 in
theorem gL_brought_X2_brought : GoodIn wsL_brought (wsV RL 30 RX2 yX2_brought wsX2_brought) := goodIn_app (goodIn_of _ (by decide +kernel)) ggL_brought_X2_brought
theorem dL_brought_0 : decode cL_brought 0 = .ok (.aload_n 2, 1) := by decide +kernel
theorem dL_brought_1 : decode cL_brought 1 = .ok (.iconst 0, 1) := by decide +kernel
theorem dL_brought_2 : decode cL_brought 2 = .ok (.aload_n 0, 1) := by decide +kernel
theorem dL_brought_3 : decode cL_brought 3 = .ok (.iload_n 1, 1) := by decide +kernel
theorem dL_brought_4 : decode cL_brought 4 = .ok (.invokevirtual 30, 3) := by decide +kernel
theorem dL_brought_7 : decode cL_brought 7 = .ok (.i2l, 1) := by decide +kernel
theorem dL_brought_8 : decode cL_brought 8 = .ok (.lastore, 1) := by decide +kernel
theorem dL_brought_9 : decode cL_brought 9 = .ok (.goto 6, 3) := by decide +kernel
theorem dL_brought_12 : decode cL_brought 12 = .ok (.astore_n 3, 1) := by decide +kernel
theorem dL_brought_13 : decode cL_brought 13 = .ok (.iconst 1, 1) := by decide +kernel
theorem dL_brought_14 : decode cL_brought 14 = .ok (.ireturn, 1) := by decide +kernel
theorem dL_brought_15 : decode cL_brought 15 = .ok (.iconst 0, 1) := by decide +kernel
theorem dL_brought_16 : decode cL_brought 16 = .ok (.ireturn, 1) := by decide +kernel
set_option maxRecDepth 20000 in
theorem ggL_draft_X2_draft : GoodIn wsL_draft wsX2_draft := goodIn_ca (goodIn_r _ [6, 7, 8, 9, 5, 10, 11, 12, 13, 14, 15, 16, 17, 18, 19, 20, 21, 22, 23, 24, 25, 26, 27, 28, 29, 30, 31, 32, 33, 34, 35, 36, 37, 38, 39, 40, 41, 42, 43, 44] (by decide +kernel) (by decide +kernel)) (goodIn_sub (fun _ h => List.mem_cons_of_mem _ (List.mem_append_right _ h)) (by decide +kernel))
set_option maxRecDepth 20000 in
theorem gL_draft_X2_draft : GoodIn wsL_draft (wsV RL 33 RX2 yX2_draft wsX2_draft) := goodIn_app (goodIn_of _ (by decide +kernel)) ggL_draft_X2_draft
theorem dL_draft_0 : decode cL_draft 0 = .ok (.aload_n 3, 1) := by decide +kernel
theorem dL_draft_1 : decode cL_draft 1 = .ok (.iconst 0, 1) := by decide +kernel
theorem dL_draft_2 : decode cL_draft 2 = .ok (.aload_n 0, 1) := by decide +kernel
theorem dL_draft_3 : decode cL_draft 3 = .ok (.iload_n 1, 1) := by decide +kernel
theorem dL_draft_4 : decode cL_draft 4 = .ok (.iload_n 2, 1) := by decide +kernel
theorem dL_draft_5 : decode cL_draft 5 = .ok (.invokevirtual 33, 3) := by decide +kernel
theorem dL_draft_8 : decode cL_draft 8 = .ok (.i2l, 1) := by decide +kernel
theorem dL_draft_9 : decode cL_draft 9 = .ok (.lastore, 1) := by decide +kernel
theorem dL_draft_10 : decode cL_draft 10 = .ok (.goto 7, 3) := by decide +kernel
theorem dL_draft_13 : decode cL_draft 13 = .ok (.astore 4, 2) := by decide +kernel
theorem dL_draft_15 : decode cL_draft 15 = .ok (.iconst 1, 1) := by decide +kernel
theorem dL_draft_16 : decode cL_draft 16 = .ok (.ireturn, 1) := by decide +kernel
theorem dL_draft_17 : decode cL_draft 17 = .ok (.iconst 0, 1) := by decide +kernel
theorem dL_draft_18 : decode cL_draft 18 = .ok (.ireturn, 1) := by decide +kernel
set_option maxRecDepth 20000 in
theorem ggL_bead_X2_bead : GoodIn wsL_bead wsX2_bead := goodIn_ca (goodIn_r _ [6, 7, 8, 9, 10, 11, 12, 13, 14, 15, 16, 17, 5, 18, 19, 20, 21, 22, 23, 24, 25, 26, 27, 28, 29, 30, 31, 32, 33, 34, 35, 36, 37, 38, 39, 40, 41, 42, 43] (by decide +kernel) (by decide +kernel)) (goodIn_sub (fun _ h => List.mem_cons_of_mem _ (List.mem_append_right _ h)) (by decide +kernel))
set_option maxRecDepth 20000 in
theorem gL_bead_X2_bead : GoodIn wsL_bead (wsV RL 36 RX2 yX2_bead wsX2_bead) := goodIn_app (goodIn_of _ (by decide +kernel)) ggL_bead_X2_bead
theorem dL_bead_0 : decode cL_bead 0 = .ok (.aload 4, 2) := by decide +kernel
theorem dL_bead_2 : decode cL_bead 2 = .ok (.iconst 0, 1) := by decide +kernel
theorem dL_bead_3 : decode cL_bead 3 = .ok (.aload_n 0, 1) := by decide +kernel
theorem dL_bead_4 : decode cL_bead 4 = .ok (.iload_n 1, 1) := by decide +kernel
theorem dL_bead_5 : decode cL_bead 5 = .ok (.iload_n 2, 1) := by decide +kernel
theorem dL_bead_6 : decode cL_bead 6 = .ok (.iload_n 3, 1) := by decide +kernel
theorem dL_bead_7 : decode cL_bead 7 = .ok (.invokevirtual 36, 3) := by decide +kernel
theorem dL_bead_10 : decode cL_bead 10 = .ok (.i2l, 1) := by decide +kernel
theorem dL_bead_11 : decode cL_bead 11 = .ok (.lastore, 1) := by decide +kernel
theorem dL_bead_12 : decode cL_bead 12 = .ok (.goto 7, 3) := by decide +kernel
theorem dL_bead_15 : decode cL_bead 15 = .ok (.astore 5, 2) := by decide +kernel
theorem dL_bead_17 : decode cL_bead 17 = .ok (.iconst 1, 1) := by decide +kernel
theorem dL_bead_18 : decode cL_bead 18 = .ok (.ireturn, 1) := by decide +kernel
theorem dL_bead_19 : decode cL_bead 19 = .ok (.iconst 0, 1) := by decide +kernel
theorem dL_bead_20 : decode cL_bead 20 = .ok (.ireturn, 1) := by decide +kernel
set_option maxRecDepth 20000 in
theorem ggL_pattern_X2_pattern : GoodIn wsL_pattern wsX2_pattern := goodIn_ca (goodIn_ca (goodIn_r _ [7, 8, 9, 10, 11, 12, 13, 14, 15, 6, 16, 17, 18, 19, 20, 21, 22, 23, 24, 25, 26, 27, 28, 29, 30, 31, 32, 33, 34, 35, 36, 37, 38, 39, 40, 41, 42, 43, 44, 45, 46, 47] (by decide +kernel) (by decide +kernel)) (goodIn_sub (fun _ h => List.mem_cons_of_mem _ (List.mem_append_left _ (List.mem_append_right _ h))) (by decide +kernel))) (goodIn_sub (fun _ h => List.mem_cons_of_mem _ (List.mem_append_right _ h)) (by decide +kernel))
set_option maxRecDepth 20000 in
theorem gL_pattern_X2_pattern : GoodIn wsL_pattern (wsV RL 39 RX2 yX2_pattern wsX2_pattern) := goodIn_app (goodIn_of _ (by decide +kernel)) ggL_pattern_X2_pattern
theorem dL_pattern_0 : decode cL_pattern 0 = .ok (.aload_n 2, 1) := by decide +kernel
theorem dL_pattern_1 : decode cL_pattern 1 = .ok (.iconst 0, 1) := by decide +kernel
theorem dL_pattern_2 : decode cL_pattern 2 = .ok (.aload_n 0, 1) := by decide +kernel
theorem dL_pattern_3 : decode cL_pattern 3 = .ok (.iload_n 1, 1) := by decide +kernel
theorem dL_pattern_4 : decode cL_pattern 4 = .ok (.invokevirtual 39, 3) := by decide +kernel
theorem dL_pattern_7 : decode cL_pattern 7 = .ok (.i2l, 1) := by decide +kernel
theorem dL_pattern_8 : decode cL_pattern 8 = .ok (.lastore, 1) := by decide +kernel
theorem dL_pattern_9 : decode cL_pattern 9 = .ok (.goto 9, 3) := by decide +kernel
theorem dL_pattern_12 : decode cL_pattern 12 = .ok (.astore_n 3, 1) := by decide +kernel
theorem dL_pattern_13 : decode cL_pattern 13 = .ok (.iconst 1, 1) := by decide +kernel
theorem dL_pattern_14 : decode cL_pattern 14 = .ok (.ireturn, 1) := by decide +kernel
theorem dL_pattern_15 : decode cL_pattern 15 = .ok (.astore_n 3, 1) := by decide +kernel
theorem dL_pattern_16 : decode cL_pattern 16 = .ok (.iconst 2, 1) := by decide +kernel
theorem dL_pattern_17 : decode cL_pattern 17 = .ok (.ireturn, 1) := by decide +kernel
theorem dL_pattern_18 : decode cL_pattern 18 = .ok (.iconst 0, 1) := by decide +kernel
theorem dL_pattern_19 : decode cL_pattern 19 = .ok (.ireturn, 1) := by decide +kernel
set_option maxRecDepth 20000 in
theorem ggL_symmetries_X2_symmetries : GoodIn wsL_symmetries wsX2_symmetries := goodIn_ca (goodIn_r _ [6, 7, 8, 9, 10, 5, 11, 12, 13, 14, 15, 16, 17, 18, 19, 20, 21, 22, 23, 24, 25, 26, 27, 28, 29, 30, 31, 32, 33, 34, 35, 36, 37, 38, 39, 40, 41, 42, 43, 44, 45, 46, 47] (by decide +kernel) (by decide +kernel)) (goodIn_sub (fun _ h => List.mem_cons_of_mem _ (List.mem_append_right _ h)) (by decide +kernel))
set_option maxRecDepth 20000 in
theorem gL_symmetries_X2_symmetries : GoodIn wsL_symmetries (wsV RL 42 RX2 yX2_symmetries wsX2_symmetries) := goodIn_app (goodIn_of _ (by decide +kernel)) ggL_symmetries_X2_symmetries
theorem dL_symmetries_0 : decode cL_symmetries 0 = .ok (.aload_n 2, 1) := by decide +kernel
theorem dL_symmetries_1 : decode cL_symmetries 1 = .ok (.iconst 0, 1) := by decide +kernel
theorem dL_symmetries_2 : decode cL_symmetries 2 = .ok (.aload_n 0, 1) := by decide +kernel
theorem dL_symmetries_3 : decode cL_symmetries 3 = .ok (.iload_n 1, 1) := by decide +kernel
theorem dL_symmetries_4 : decode cL_symmetries 4 = .ok (.invokevirtual 42, 3) := by decide +kernel
theorem dL_symmetries_7 : decode cL_symmetries 7 = .ok (.i2l, 1) := by decide +kernel
theorem dL_symmetries_8 : decode cL_symmetries 8 = .ok (.lastore, 1) := by decide +kernel
theorem dL_symmetries_9 : decode cL_symmetries 9 = .ok (.goto 6, 3) := by decide +kernel
theorem dL_symmetries_12 : decode cL_symmetries 12 = .ok (.astore_n 3, 1) := by decide +kernel
theorem dL_symmetries_13 : decode cL_symmetries 13 = .ok (.iconst 1, 1) := by decide +kernel
theorem dL_symmetries_14 : decode cL_symmetries 14 = .ok (.ireturn, 1) := by decide +kernel
theorem dL_symmetries_15 : decode cL_symmetries 15 = .ok (.iconst 0, 1) := by decide +kernel
theorem dL_symmetries_16 : decode cL_symmetries 16 = .ok (.ireturn, 1) := by decide +kernel
set_option maxRecDepth 20000 in
theorem ggL_origin_X2_origin : GoodIn wsL_origin wsX2_origin := goodIn_ca (goodIn_r _ [6, 7, 8, 9, 5, 10, 11, 12, 13, 14, 15, 16, 17, 18, 19, 20, 21, 22, 23, 24, 25, 26, 27, 28, 29, 30, 31, 32, 33, 34, 35, 36, 37, 38, 39, 40, 41, 42, 43, 44, 45, 46, 47, 48, 49, 50, 51] (by decide +kernel) (by decide +kernel)) (goodIn_sub (fun _ h => List.mem_cons_of_mem _ (List.mem_append_right _ h)) (by decide +kernel))
set_option maxRecDepth 20000 in
theorem gL_origin_X2_origin : GoodIn wsL_origin (wsV RL 45 RX2 yX2_origin wsX2_origin) := goodIn_app (goodIn_of _ (by decide +kernel)) ggL_origin_X2_origin
theorem dL_origin_0 : decode cL_origin 0 = .ok (.aload_n 2, 1) := by decide +kernel
theorem dL_origin_1 : decode cL_origin 1 = .ok (.iconst 0, 1) := by decide +kernel
theorem dL_origin_2 : decode cL_origin 2 = .ok (.aload_n 0, 1) := by decide +kernel
theorem dL_origin_3 : decode cL_origin 3 = .ok (.iload_n 1, 1) := by decide +kernel
theorem dL_origin_4 : decode cL_origin 4 = .ok (.invokevirtual 45, 3) := by decide +kernel
theorem dL_origin_7 : decode cL_origin 7 = .ok (.i2l, 1) := by decide +kernel
theorem dL_origin_8 : decode cL_origin 8 = .ok (.lastore, 1) := by decide +kernel
theorem dL_origin_9 : decode cL_origin 9 = .ok (.goto 6, 3) := by decide +kernel
theorem dL_origin_12 : decode cL_origin 12 = .ok (.astore_n 3, 1) := by decide +kernel
theorem dL_origin_13 : decode cL_origin 13 = .ok (.iconst 1, 1) := by decide +kernel
theorem dL_origin_14 : decode cL_origin 14 = .ok (.ireturn, 1) := by decide +kernel
theorem dL_origin_15 : decode cL_origin 15 = .ok (.iconst 0, 1) := by decide +kernel
theorem dL_origin_16 : decode cL_origin 16 = .ok (.ireturn, 1) := by decide +kernel
set_option maxRecDepth 20000 in
theorem ggL_needs_X2_needs : GoodIn wsL_needs wsX2_needs := goodIn_ca (goodIn_r _ [6, 7, 8, 9, 10, 5, 11, 12, 13, 14, 15, 16, 17, 18, 19, 20, 21, 22, 23, 24, 25, 26, 27, 28, 29, 30, 31, 32, 33, 34, 35, 36, 37, 38, 39, 40, 41, 42, 43, 44, 45, 46] (by decide +kernel) (by decide +kernel)) (goodIn_sub (fun _ h => List.mem_cons_of_mem _ (List.mem_append_right _ h)) (by decide +kernel))
set_option maxRecDepth 20000 in
theorem gL_needs_X2_needs : GoodIn wsL_needs (wsV RL 48 RX2 yX2_needs wsX2_needs) := goodIn_app (goodIn_of _ (by decide +kernel)) ggL_needs_X2_needs
theorem dL_needs_0 : decode cL_needs 0 = .ok (.aload_n 3, 1) := by decide +kernel
theorem dL_needs_1 : decode cL_needs 1 = .ok (.iconst 0, 1) := by decide +kernel
theorem dL_needs_2 : decode cL_needs 2 = .ok (.aload_n 0, 1) := by decide +kernel
theorem dL_needs_3 : decode cL_needs 3 = .ok (.iload_n 1, 1) := by decide +kernel
theorem dL_needs_4 : decode cL_needs 4 = .ok (.iload_n 2, 1) := by decide +kernel
theorem dL_needs_5 : decode cL_needs 5 = .ok (.invokevirtual 48, 3) := by decide +kernel
theorem dL_needs_8 : decode cL_needs 8 = .ok (.i2l, 1) := by decide +kernel
theorem dL_needs_9 : decode cL_needs 9 = .ok (.lastore, 1) := by decide +kernel
theorem dL_needs_10 : decode cL_needs 10 = .ok (.goto 7, 3) := by decide +kernel
theorem dL_needs_13 : decode cL_needs 13 = .ok (.astore 4, 2) := by decide +kernel
theorem dL_needs_15 : decode cL_needs 15 = .ok (.iconst 1, 1) := by decide +kernel
theorem dL_needs_16 : decode cL_needs 16 = .ok (.ireturn, 1) := by decide +kernel
theorem dL_needs_17 : decode cL_needs 17 = .ok (.iconst 0, 1) := by decide +kernel
theorem dL_needs_18 : decode cL_needs 18 = .ok (.ireturn, 1) := by decide +kernel
set_option maxRecDepth 20000 in
theorem ggL_weave_X2_weave : GoodIn wsL_weave wsX2_weave := goodIn_ca (goodIn_ca (goodIn_r _ [7, 8, 9, 10, 11, 12, 13, 14, 15, 16, 17, 6, 18, 19, 20, 21, 22, 23, 24, 25, 26, 27, 28, 29, 30, 31, 32, 33, 34, 35, 36, 37, 38, 39, 40, 41, 42, 43, 44, 45, 46, 47, 48, 49, 50, 51, 52, 53, 54, 55, 56, 57, 58, 59, 60, 61, 62, 63, 64, 65, 66, 67, 68, 69, 70, 71, 72, 73, 74, 75, 76, 77] (by decide +kernel) (by decide +kernel)) (goodIn_sub (fun _ h => List.mem_cons_of_mem _ (List.mem_append_left _ (List.mem_append_right _ h))) (by decide +kernel))) (goodIn_sub (fun _ h => List.mem_cons_of_mem _ (List.mem_append_right _ h)) (by decide +kernel))
set_option maxRecDepth 20000 in
theorem gL_weave_X2_weave : GoodIn wsL_weave (wsV RL 51 RX2 yX2_weave wsX2_weave) := goodIn_app (goodIn_of _ (by decide +kernel)) ggL_weave_X2_weave
theorem dL_weave_0 : decode cL_weave 0 = .ok (.aload_n 3, 1) := by decide +kernel
theorem dL_weave_1 : decode cL_weave 1 = .ok (.iconst 0, 1) := by decide +kernel
theorem dL_weave_2 : decode cL_weave 2 = .ok (.aload_n 0, 1) := by decide +kernel
theorem dL_weave_3 : decode cL_weave 3 = .ok (.iload_n 1, 1) := by decide +kernel
theorem dL_weave_4 : decode cL_weave 4 = .ok (.iload_n 2, 1) := by decide +kernel
theorem dL_weave_5 : decode cL_weave 5 = .ok (.invokevirtual 51, 3) := by decide +kernel
theorem dL_weave_8 : decode cL_weave 8 = .ok (.i2l, 1) := by decide +kernel
theorem dL_weave_9 : decode cL_weave 9 = .ok (.lastore, 1) := by decide +kernel
theorem dL_weave_10 : decode cL_weave 10 = .ok (.goto 11, 3) := by decide +kernel
theorem dL_weave_13 : decode cL_weave 13 = .ok (.astore 4, 2) := by decide +kernel
theorem dL_weave_15 : decode cL_weave 15 = .ok (.iconst 1, 1) := by decide +kernel
theorem dL_weave_16 : decode cL_weave 16 = .ok (.ireturn, 1) := by decide +kernel
theorem dL_weave_17 : decode cL_weave 17 = .ok (.astore 4, 2) := by decide +kernel
theorem dL_weave_19 : decode cL_weave 19 = .ok (.iconst 2, 1) := by decide +kernel
theorem dL_weave_20 : decode cL_weave 20 = .ok (.ireturn, 1) := by decide +kernel
theorem dL_weave_21 : decode cL_weave 21 = .ok (.iconst 0, 1) := by decide +kernel
theorem dL_weave_22 : decode cL_weave 22 = .ok (.ireturn, 1) := by decide +kernel
set_option maxRecDepth 20000 in
theorem ggL_apart_X2_apart : GoodIn wsL_apart wsX2_apart := goodIn_ca (goodIn_ca (goodIn_r _ [7, 8, 9, 10, 11, 12, 13, 14, 15, 16, 17, 6, 18, 19, 20, 21, 22, 23, 24, 25, 26, 27, 28, 29, 30, 31, 32, 33, 34, 35, 36, 37, 38, 39, 40, 41, 42, 43, 44, 45, 46, 47, 48, 49, 50, 51, 52, 53] (by decide +kernel) (by decide +kernel)) (goodIn_sub (fun _ h => List.mem_cons_of_mem _ (List.mem_append_left _ (List.mem_append_right _ h))) (by decide +kernel))) (goodIn_sub (fun _ h => List.mem_cons_of_mem _ (List.mem_append_right _ h)) (by decide +kernel))
set_option maxRecDepth 20000 in
theorem gL_apart_X2_apart : GoodIn wsL_apart (wsV RL 54 RX2 yX2_apart wsX2_apart) := goodIn_app (goodIn_of _ (by decide +kernel)) ggL_apart_X2_apart
theorem dL_apart_0 : decode cL_apart 0 = .ok (.aload_n 2, 1) := by decide +kernel
theorem dL_apart_1 : decode cL_apart 1 = .ok (.iconst 0, 1) := by decide +kernel
theorem dL_apart_2 : decode cL_apart 2 = .ok (.aload_n 0, 1) := by decide +kernel
theorem dL_apart_3 : decode cL_apart 3 = .ok (.iload_n 1, 1) := by decide +kernel
theorem dL_apart_4 : decode cL_apart 4 = .ok (.invokevirtual 54, 3) := by decide +kernel
theorem dL_apart_7 : decode cL_apart 7 = .ok (.i2l, 1) := by decide +kernel
theorem dL_apart_8 : decode cL_apart 8 = .ok (.lastore, 1) := by decide +kernel
theorem dL_apart_9 : decode cL_apart 9 = .ok (.goto 9, 3) := by decide +kernel
theorem dL_apart_12 : decode cL_apart 12 = .ok (.astore_n 3, 1) := by decide +kernel
theorem dL_apart_13 : decode cL_apart 13 = .ok (.iconst 1, 1) := by decide +kernel
theorem dL_apart_14 : decode cL_apart 14 = .ok (.ireturn, 1) := by decide +kernel
theorem dL_apart_15 : decode cL_apart 15 = .ok (.astore_n 3, 1) := by decide +kernel
theorem dL_apart_16 : decode cL_apart 16 = .ok (.iconst 2, 1) := by decide +kernel
theorem dL_apart_17 : decode cL_apart 17 = .ok (.ireturn, 1) := by decide +kernel
theorem dL_apart_18 : decode cL_apart 18 = .ok (.iconst 0, 1) := by decide +kernel
theorem dL_apart_19 : decode cL_apart 19 = .ok (.ireturn, 1) := by decide +kernel
set_option maxRecDepth 20000 in
theorem ggL_give_X2_give : GoodIn wsL_give wsX2_give := goodIn_ca (goodIn_r _ [6, 7, 8, 9, 10, 5, 11, 12, 13, 14, 15, 16, 17, 18, 19, 20, 21, 22, 23, 24, 25, 26, 27, 28, 29, 30, 31, 32, 33, 34, 35, 36] (by decide +kernel) (by decide +kernel)) (goodIn_sub (fun _ h => List.mem_cons_of_mem _ (List.mem_append_right _ h)) (by decide +kernel))
set_option maxRecDepth 20000 in
theorem gL_give_X2_give : GoodIn wsL_give (wsV RL 57 RX2 yX2_give wsX2_give) := goodIn_app (goodIn_of _ (by decide +kernel)) ggL_give_X2_give
theorem dL_give_0 : decode cL_give 0 = .ok (.aload_n 3, 1) := by decide +kernel
theorem dL_give_1 : decode cL_give 1 = .ok (.iconst 0, 1) := by decide +kernel
theorem dL_give_2 : decode cL_give 2 = .ok (.aload_n 0, 1) := by decide +kernel
theorem dL_give_3 : decode cL_give 3 = .ok (.iload_n 1, 1) := by decide +kernel
theorem dL_give_4 : decode cL_give 4 = .ok (.iload_n 2, 1) := by decide +kernel
theorem dL_give_5 : decode cL_give 5 = .ok (.invokevirtual 57, 3) := by decide +kernel
theorem dL_give_8 : decode cL_give 8 = .ok (.i2l, 1) := by decide +kernel
theorem dL_give_9 : decode cL_give 9 = .ok (.lastore, 1) := by decide +kernel
theorem dL_give_10 : decode cL_give 10 = .ok (.goto 7, 3) := by decide +kernel
theorem dL_give_13 : decode cL_give 13 = .ok (.astore 4, 2) := by decide +kernel
theorem dL_give_15 : decode cL_give 15 = .ok (.iconst 1, 1) := by decide +kernel
theorem dL_give_16 : decode cL_give 16 = .ok (.ireturn, 1) := by decide +kernel
theorem dL_give_17 : decode cL_give 17 = .ok (.iconst 0, 1) := by decide +kernel
theorem dL_give_18 : decode cL_give 18 = .ok (.ireturn, 1) := by decide +kernel
set_option maxRecDepth 20000 in
theorem ggL_owner_X2_owner : GoodIn wsL_owner wsX2_owner := goodIn_ca (goodIn_r _ [6, 7, 8, 9, 10, 5, 11, 12, 13, 14, 15, 16, 17, 18, 19, 20, 21, 22, 23, 24, 25, 26, 27, 28, 29, 30, 31, 32, 33] (by decide +kernel) (by decide +kernel)) (goodIn_sub (fun _ h => List.mem_cons_of_mem _ (List.mem_append_right _ h)) (by decide +kernel))
set_option maxRecDepth 20000 in
theorem gL_owner_X2_owner : GoodIn wsL_owner (wsV RL 60 RX2 yX2_owner wsX2_owner) := goodIn_app (goodIn_of _ (by decide +kernel)) ggL_owner_X2_owner
theorem dL_owner_0 : decode cL_owner 0 = .ok (.aload_n 2, 1) := by decide +kernel
theorem dL_owner_1 : decode cL_owner 1 = .ok (.iconst 0, 1) := by decide +kernel
theorem dL_owner_2 : decode cL_owner 2 = .ok (.aload_n 0, 1) := by decide +kernel
theorem dL_owner_3 : decode cL_owner 3 = .ok (.iload_n 1, 1) := by decide +kernel
theorem dL_owner_4 : decode cL_owner 4 = .ok (.invokevirtual 60, 3) := by decide +kernel
theorem dL_owner_7 : decode cL_owner 7 = .ok (.i2l, 1) := by decide +kernel
theorem dL_owner_8 : decode cL_owner 8 = .ok (.lastore, 1) := by decide +kernel
theorem dL_owner_9 : decode cL_owner 9 = .ok (.goto 6, 3) := by decide +kernel
theorem dL_owner_12 : decode cL_owner 12 = .ok (.astore_n 3, 1) := by decide +kernel
theorem dL_owner_13 : decode cL_owner 13 = .ok (.iconst 1, 1) := by decide +kernel
theorem dL_owner_14 : decode cL_owner 14 = .ok (.ireturn, 1) := by decide +kernel
theorem dL_owner_15 : decode cL_owner 15 = .ok (.iconst 0, 1) := by decide +kernel
theorem dL_owner_16 : decode cL_owner 16 = .ok (.ireturn, 1) := by decide +kernel
set_option maxRecDepth 20000 in
theorem ggL_credits_X2_credits : GoodIn wsL_credits wsX2_credits := goodIn_ca (goodIn_r _ [6, 7, 8, 9, 5, 10, 11, 12, 13, 14, 15, 16, 17, 18, 19, 20, 21, 22, 23, 24, 25, 26, 27] (by decide +kernel) (by decide +kernel)) (goodIn_sub (fun _ h => List.mem_cons_of_mem _ (List.mem_append_right _ h)) (by decide +kernel))
set_option maxRecDepth 20000 in
theorem gL_credits_X2_credits : GoodIn wsL_credits (wsV RL 63 RX2 yX2_credits wsX2_credits) := goodIn_app (goodIn_of _ (by decide +kernel)) ggL_credits_X2_credits
theorem dL_credits_0 : decode cL_credits 0 = .ok (.aload_n 2, 1) := by decide +kernel
theorem dL_credits_1 : decode cL_credits 1 = .ok (.iconst 0, 1) := by decide +kernel
theorem dL_credits_2 : decode cL_credits 2 = .ok (.aload_n 0, 1) := by decide +kernel
theorem dL_credits_3 : decode cL_credits 3 = .ok (.iload_n 1, 1) := by decide +kernel
theorem dL_credits_4 : decode cL_credits 4 = .ok (.invokevirtual 63, 3) := by decide +kernel
theorem dL_credits_7 : decode cL_credits 7 = .ok (.i2l, 1) := by decide +kernel
theorem dL_credits_8 : decode cL_credits 8 = .ok (.lastore, 1) := by decide +kernel
theorem dL_credits_9 : decode cL_credits 9 = .ok (.goto 6, 3) := by decide +kernel
theorem dL_credits_12 : decode cL_credits 12 = .ok (.astore_n 3, 1) := by decide +kernel
theorem dL_credits_13 : decode cL_credits 13 = .ok (.iconst 1, 1) := by decide +kernel
theorem dL_credits_14 : decode cL_credits 14 = .ok (.ireturn, 1) := by decide +kernel
theorem dL_credits_15 : decode cL_credits 15 = .ok (.iconst 0, 1) := by decide +kernel
theorem dL_credits_16 : decode cL_credits 16 = .ok (.ireturn, 1) := by decide +kernel
set_option maxRecDepth 20000 in
theorem ggL_wish_X2_wish : GoodIn wsL_wish wsX2_wish := goodIn_ca (goodIn_ca (goodIn_r _ [7, 8, 9, 10, 11, 12, 6, 13, 14, 15, 16, 17, 18, 19, 20, 21, 22, 23, 24, 25, 26, 27, 28, 29, 30, 31, 32, 33, 34, 35, 36, 37, 38, 39, 40, 41, 42, 43, 44, 45, 46, 47, 48] (by decide +kernel) (by decide +kernel)) (goodIn_sub (fun _ h => List.mem_cons_of_mem _ (List.mem_append_left _ (List.mem_append_right _ h))) (by decide +kernel))) (goodIn_sub (fun _ h => List.mem_cons_of_mem _ (List.mem_append_right _ h)) (by decide +kernel))
set_option maxRecDepth 20000 in
theorem gL_wish_X2_wish : GoodIn wsL_wish (wsV RL 66 RX2 yX2_wish wsX2_wish) := goodIn_app (goodIn_of _ (by decide +kernel)) ggL_wish_X2_wish
theorem dL_wish_0 : decode cL_wish 0 = .ok (.aload 4, 2) := by decide +kernel
theorem dL_wish_2 : decode cL_wish 2 = .ok (.iconst 0, 1) := by decide +kernel
theorem dL_wish_3 : decode cL_wish 3 = .ok (.aload_n 0, 1) := by decide +kernel
theorem dL_wish_4 : decode cL_wish 4 = .ok (.iload_n 1, 1) := by decide +kernel
theorem dL_wish_5 : decode cL_wish 5 = .ok (.iload_n 2, 1) := by decide +kernel
theorem dL_wish_6 : decode cL_wish 6 = .ok (.iload_n 3, 1) := by decide +kernel
theorem dL_wish_7 : decode cL_wish 7 = .ok (.invokevirtual 66, 3) := by decide +kernel
theorem dL_wish_10 : decode cL_wish 10 = .ok (.ifCond .eq 7, 3) := by decide +kernel
theorem dL_wish_13 : decode cL_wish 13 = .ok (.lconst 1, 1) := by decide +kernel
theorem dL_wish_14 : decode cL_wish 14 = .ok (.goto 4, 3) := by decide +kernel
theorem dL_wish_17 : decode cL_wish 17 = .ok (.lconst 0, 1) := by decide +kernel
theorem dL_wish_18 : decode cL_wish 18 = .ok (.lastore, 1) := by decide +kernel
theorem dL_wish_19 : decode cL_wish 19 = .ok (.goto 11, 3) := by decide +kernel
theorem dL_wish_22 : decode cL_wish 22 = .ok (.astore 5, 2) := by decide +kernel
theorem dL_wish_24 : decode cL_wish 24 = .ok (.iconst 1, 1) := by decide +kernel
theorem dL_wish_25 : decode cL_wish 25 = .ok (.ireturn, 1) := by decide +kernel
theorem dL_wish_26 : decode cL_wish 26 = .ok (.astore 5, 2) := by decide +kernel
theorem dL_wish_28 : decode cL_wish 28 = .ok (.iconst 2, 1) := by decide +kernel
theorem dL_wish_29 : decode cL_wish 29 = .ok (.ireturn, 1) := by decide +kernel
theorem dL_wish_30 : decode cL_wish 30 = .ok (.iconst 0, 1) := by decide +kernel
theorem dL_wish_31 : decode cL_wish 31 = .ok (.ireturn, 1) := by decide +kernel
set_option maxRecDepth 20000 in
theorem ggL_unwish_X2_unwish : GoodIn wsL_unwish wsX2_unwish := goodIn_ca (goodIn_r _ [6, 7, 8, 9, 5, 10, 11, 12, 13, 14, 15, 16, 17, 18, 19, 20, 21, 22, 23, 24, 25, 26, 27, 28, 29, 30, 31, 32, 33, 34, 35, 36, 37, 38, 39, 40, 41, 42] (by decide +kernel) (by decide +kernel)) (goodIn_sub (fun _ h => List.mem_cons_of_mem _ (List.mem_append_right _ h)) (by decide +kernel))
set_option maxRecDepth 20000 in
theorem gL_unwish_X2_unwish : GoodIn wsL_unwish (wsV RL 70 RX2 yX2_unwish wsX2_unwish) := goodIn_app (goodIn_of _ (by decide +kernel)) ggL_unwish_X2_unwish
theorem dL_unwish_0 : decode cL_unwish 0 = .ok (.aload_n 2, 1) := by decide +kernel
theorem dL_unwish_1 : decode cL_unwish 1 = .ok (.iconst 0, 1) := by decide +kernel
theorem dL_unwish_2 : decode cL_unwish 2 = .ok (.aload_n 0, 1) := by decide +kernel
theorem dL_unwish_3 : decode cL_unwish 3 = .ok (.iload_n 1, 1) := by decide +kernel
theorem dL_unwish_4 : decode cL_unwish 4 = .ok (.invokevirtual 70, 3) := by decide +kernel
theorem dL_unwish_7 : decode cL_unwish 7 = .ok (.ifCond .eq 7, 3) := by decide +kernel
theorem dL_unwish_10 : decode cL_unwish 10 = .ok (.lconst 1, 1) := by decide +kernel
theorem dL_unwish_11 : decode cL_unwish 11 = .ok (.goto 4, 3) := by decide +kernel
theorem dL_unwish_14 : decode cL_unwish 14 = .ok (.lconst 0, 1) := by decide +kernel
theorem dL_unwish_15 : decode cL_unwish 15 = .ok (.lastore, 1) := by decide +kernel
theorem dL_unwish_16 : decode cL_unwish 16 = .ok (.goto 6, 3) := by decide +kernel
theorem dL_unwish_19 : decode cL_unwish 19 = .ok (.astore_n 3, 1) := by decide +kernel
theorem dL_unwish_20 : decode cL_unwish 20 = .ok (.iconst 1, 1) := by decide +kernel
theorem dL_unwish_21 : decode cL_unwish 21 = .ok (.ireturn, 1) := by decide +kernel
theorem dL_unwish_22 : decode cL_unwish 22 = .ok (.iconst 0, 1) := by decide +kernel
theorem dL_unwish_23 : decode cL_unwish 23 = .ok (.ireturn, 1) := by decide +kernel
set_option maxRecDepth 20000 in
theorem ggL_chainAt_X2_chainAt : GoodIn wsL_chainAt wsX2_chainAt := goodIn_ca (goodIn_r _ [6, 7, 8, 9, 10, 11, 12, 13, 14, 15, 16, 17, 18, 19, 20, 21, 22, 23, 24, 25, 26, 27, 28, 29, 30, 31, 32, 33, 34, 35, 36, 37, 38, 39, 40, 41, 42, 43, 44, 45, 46, 47, 48, 49, 50, 51, 52, 53, 54, 55, 56, 57, 58, 59, 60, 61, 62, 63, 64] (by decide +kernel) (by decide +kernel)) (goodIn_sub (fun _ h => List.mem_cons_of_mem _ (List.mem_append_right _ h)) (by decide +kernel))
set_option maxRecDepth 20000 in
theorem gL_chainAt_X2_chainAt : GoodIn wsL_chainAt (wsV RL 74 RX2 yX2_chainAt wsX2_chainAt) := goodIn_app (goodIn_of _ (by decide +kernel)) ggL_chainAt_X2_chainAt
theorem dL_chainAt_0 : decode cL_chainAt 0 = .ok (.aload_n 2, 1) := by decide +kernel
theorem dL_chainAt_1 : decode cL_chainAt 1 = .ok (.iconst 0, 1) := by decide +kernel
theorem dL_chainAt_2 : decode cL_chainAt 2 = .ok (.aload_n 0, 1) := by decide +kernel
theorem dL_chainAt_3 : decode cL_chainAt 3 = .ok (.iload_n 1, 1) := by decide +kernel
theorem dL_chainAt_4 : decode cL_chainAt 4 = .ok (.invokevirtual 74, 3) := by decide +kernel
theorem dL_chainAt_7 : decode cL_chainAt 7 = .ok (.i2l, 1) := by decide +kernel
theorem dL_chainAt_8 : decode cL_chainAt 8 = .ok (.lastore, 1) := by decide +kernel
theorem dL_chainAt_9 : decode cL_chainAt 9 = .ok (.goto 6, 3) := by decide +kernel
theorem dL_chainAt_12 : decode cL_chainAt 12 = .ok (.astore_n 3, 1) := by decide +kernel
theorem dL_chainAt_13 : decode cL_chainAt 13 = .ok (.iconst 1, 1) := by decide +kernel
theorem dL_chainAt_14 : decode cL_chainAt 14 = .ok (.ireturn, 1) := by decide +kernel
theorem dL_chainAt_15 : decode cL_chainAt 15 = .ok (.iconst 0, 1) := by decide +kernel
theorem dL_chainAt_16 : decode cL_chainAt 16 = .ok (.ireturn, 1) := by decide +kernel
set_option maxRecDepth 20000 in
theorem ggL_sign_X2_sign : GoodIn wsL_sign wsX2_sign := goodIn_ca (goodIn_ca (goodIn_r _ [7, 8, 9, 10, 11, 12, 13, 14, 15, 6, 16, 17, 18, 19, 20, 21, 22, 23, 24, 25, 26, 27, 28, 29, 30, 31, 32, 33, 34, 35, 36, 37, 38, 39, 40, 41, 42, 43, 44, 45, 46, 47] (by decide +kernel) (by decide +kernel)) (goodIn_sub (fun _ h => List.mem_cons_of_mem _ (List.mem_append_left _ (List.mem_append_right _ h))) (by decide +kernel))) (goodIn_sub (fun _ h => List.mem_cons_of_mem _ (List.mem_append_right _ h)) (by decide +kernel))
set_option maxRecDepth 20000 in
theorem gL_sign_X2_sign : GoodIn wsL_sign (wsV RL 77 RX2 yX2_sign wsX2_sign) := goodIn_app (goodIn_of _ (by decide +kernel)) ggL_sign_X2_sign
theorem dL_sign_0 : decode cL_sign 0 = .ok (.aload_n 2, 1) := by decide +kernel
theorem dL_sign_1 : decode cL_sign 1 = .ok (.iconst 0, 1) := by decide +kernel
theorem dL_sign_2 : decode cL_sign 2 = .ok (.aload_n 0, 1) := by decide +kernel
theorem dL_sign_3 : decode cL_sign 3 = .ok (.iload_n 1, 1) := by decide +kernel
theorem dL_sign_4 : decode cL_sign 4 = .ok (.invokevirtual 77, 3) := by decide +kernel
theorem dL_sign_7 : decode cL_sign 7 = .ok (.i2l, 1) := by decide +kernel
theorem dL_sign_8 : decode cL_sign 8 = .ok (.lastore, 1) := by decide +kernel
theorem dL_sign_9 : decode cL_sign 9 = .ok (.goto 9, 3) := by decide +kernel
theorem dL_sign_12 : decode cL_sign 12 = .ok (.astore_n 3, 1) := by decide +kernel
theorem dL_sign_13 : decode cL_sign 13 = .ok (.iconst 1, 1) := by decide +kernel
theorem dL_sign_14 : decode cL_sign 14 = .ok (.ireturn, 1) := by decide +kernel
theorem dL_sign_15 : decode cL_sign 15 = .ok (.astore_n 3, 1) := by decide +kernel
theorem dL_sign_16 : decode cL_sign 16 = .ok (.iconst 2, 1) := by decide +kernel
theorem dL_sign_17 : decode cL_sign 17 = .ok (.ireturn, 1) := by decide +kernel
theorem dL_sign_18 : decode cL_sign 18 = .ok (.iconst 0, 1) := by decide +kernel
theorem dL_sign_19 : decode cL_sign 19 = .ok (.ireturn, 1) := by decide +kernel
set_option maxRecDepth 20000 in
theorem ggL_stands_X2_stands : GoodIn wsL_stands wsX2_stands := goodIn_ca (goodIn_r _ [6, 7, 8, 9, 10, 11, 12, 13, 14, 5, 15, 16, 17, 18, 19, 20, 21, 22, 23, 24, 25, 26, 27, 28, 29, 30, 31, 32, 33, 34, 35, 36, 37, 38, 39, 40, 41, 42, 43, 44, 45, 46, 47, 48, 49] (by decide +kernel) (by decide +kernel)) (goodIn_sub (fun _ h => List.mem_cons_of_mem _ (List.mem_append_right _ h)) (by decide +kernel))
set_option maxRecDepth 20000 in
theorem gL_stands_X2_stands : GoodIn wsL_stands (wsV RL 80 RX2 yX2_stands wsX2_stands) := goodIn_app (goodIn_of _ (by decide +kernel)) ggL_stands_X2_stands
theorem dL_stands_0 : decode cL_stands 0 = .ok (.aload_n 3, 1) := by decide +kernel
theorem dL_stands_1 : decode cL_stands 1 = .ok (.iconst 0, 1) := by decide +kernel
theorem dL_stands_2 : decode cL_stands 2 = .ok (.aload_n 0, 1) := by decide +kernel
theorem dL_stands_3 : decode cL_stands 3 = .ok (.iload_n 1, 1) := by decide +kernel
theorem dL_stands_4 : decode cL_stands 4 = .ok (.iload_n 2, 1) := by decide +kernel
theorem dL_stands_5 : decode cL_stands 5 = .ok (.invokevirtual 80, 3) := by decide +kernel
theorem dL_stands_8 : decode cL_stands 8 = .ok (.i2l, 1) := by decide +kernel
theorem dL_stands_9 : decode cL_stands 9 = .ok (.lastore, 1) := by decide +kernel
theorem dL_stands_10 : decode cL_stands 10 = .ok (.goto 7, 3) := by decide +kernel
theorem dL_stands_13 : decode cL_stands 13 = .ok (.astore 4, 2) := by decide +kernel
theorem dL_stands_15 : decode cL_stands 15 = .ok (.iconst 1, 1) := by decide +kernel
theorem dL_stands_16 : decode cL_stands 16 = .ok (.ireturn, 1) := by decide +kernel
theorem dL_stands_17 : decode cL_stands 17 = .ok (.iconst 0, 1) := by decide +kernel
theorem dL_stands_18 : decode cL_stands 18 = .ok (.ireturn, 1) := by decide +kernel
set_option maxRecDepth 20000 in
theorem ggL_story_X2_story : GoodIn wsL_story wsX2_story := goodIn_ca (goodIn_r _ [6, 7, 8, 9, 5, 10, 11, 12, 13, 14, 15, 16, 17, 18, 19, 20, 21, 22, 23, 24, 25, 26, 27, 28, 29, 30, 31, 32, 33, 34, 35, 36, 37, 38, 39, 40, 41, 42, 43, 44, 45, 46, 47, 48, 49, 50, 51, 52, 53, 54] (by decide +kernel) (by decide +kernel)) (goodIn_sub (fun _ h => List.mem_cons_of_mem _ (List.mem_append_right _ h)) (by decide +kernel))
set_option maxRecDepth 20000 in
theorem gL_story_X2_story : GoodIn wsL_story (wsV RL 83 RX2 yX2_story wsX2_story) := goodIn_app (goodIn_of _ (by decide +kernel)) ggL_story_X2_story
theorem dL_story_0 : decode cL_story 0 = .ok (.aload_n 2, 1) := by decide +kernel
theorem dL_story_1 : decode cL_story 1 = .ok (.iconst 0, 1) := by decide +kernel
theorem dL_story_2 : decode cL_story 2 = .ok (.aload_n 0, 1) := by decide +kernel
theorem dL_story_3 : decode cL_story 3 = .ok (.iload_n 1, 1) := by decide +kernel
theorem dL_story_4 : decode cL_story 4 = .ok (.invokevirtual 83, 3) := by decide +kernel
theorem dL_story_7 : decode cL_story 7 = .ok (.i2l, 1) := by decide +kernel
theorem dL_story_8 : decode cL_story 8 = .ok (.lastore, 1) := by decide +kernel
theorem dL_story_9 : decode cL_story 9 = .ok (.goto 6, 3) := by decide +kernel
theorem dL_story_12 : decode cL_story 12 = .ok (.astore_n 3, 1) := by decide +kernel
theorem dL_story_13 : decode cL_story 13 = .ok (.iconst 1, 1) := by decide +kernel
theorem dL_story_14 : decode cL_story 14 = .ok (.ireturn, 1) := by decide +kernel
theorem dL_story_15 : decode cL_story 15 = .ok (.iconst 0, 1) := by decide +kernel
theorem dL_story_16 : decode cL_story 16 = .ok (.ireturn, 1) := by decide +kernel
set_option maxRecDepth 20000 in
theorem ggL_hear_X2_hear : GoodIn wsL_hear wsX2_hear := goodIn_ca (goodIn_r _ [6, 7, 8, 9, 10, 11, 5, 12, 13, 14, 15, 16, 17, 18, 19, 20, 21, 22, 23, 24, 25, 26, 27, 28, 29, 30, 31, 32, 33, 34, 35, 36, 37, 38, 39, 40, 41, 42, 43, 44, 45, 46, 47, 48, 49, 50, 51, 52, 53, 54, 55, 56, 57, 58, 59, 60, 61, 62] (by decide +kernel) (by decide +kernel)) (goodIn_sub (fun _ h => List.mem_cons_of_mem _ (List.mem_append_right _ h)) (by decide +kernel))
set_option maxRecDepth 20000 in
theorem gL_hear_X2_hear : GoodIn wsL_hear (wsV RL 86 RX2 yX2_hear wsX2_hear) := goodIn_app (goodIn_of _ (by decide +kernel)) ggL_hear_X2_hear
theorem dL_hear_0 : decode cL_hear 0 = .ok (.aload_n 3, 1) := by decide +kernel
theorem dL_hear_1 : decode cL_hear 1 = .ok (.iconst 0, 1) := by decide +kernel
theorem dL_hear_2 : decode cL_hear 2 = .ok (.aload_n 0, 1) := by decide +kernel
theorem dL_hear_3 : decode cL_hear 3 = .ok (.iload_n 1, 1) := by decide +kernel
theorem dL_hear_4 : decode cL_hear 4 = .ok (.iload_n 2, 1) := by decide +kernel
theorem dL_hear_5 : decode cL_hear 5 = .ok (.invokevirtual 86, 3) := by decide +kernel
theorem dL_hear_8 : decode cL_hear 8 = .ok (.lastore, 1) := by decide +kernel
theorem dL_hear_9 : decode cL_hear 9 = .ok (.goto 7, 3) := by decide +kernel
theorem dL_hear_12 : decode cL_hear 12 = .ok (.astore 4, 2) := by decide +kernel
theorem dL_hear_14 : decode cL_hear 14 = .ok (.iconst 1, 1) := by decide +kernel
theorem dL_hear_15 : decode cL_hear 15 = .ok (.ireturn, 1) := by decide +kernel
theorem dL_hear_16 : decode cL_hear 16 = .ok (.iconst 0, 1) := by decide +kernel
theorem dL_hear_17 : decode cL_hear 17 = .ok (.ireturn, 1) := by decide +kernel
set_option maxRecDepth 20000 in
theorem ggL_ranked_X2_ranked : GoodIn wsL_ranked wsX2_ranked := goodIn_ca (goodIn_r _ [6, 7, 8, 9, 10, 11, 5, 12, 13, 14, 15, 16, 17, 18, 19, 20, 21, 22, 23, 24, 25, 26, 27, 28] (by decide +kernel) (by decide +kernel)) (goodIn_sub (fun _ h => List.mem_cons_of_mem _ (List.mem_append_right _ h)) (by decide +kernel))
set_option maxRecDepth 20000 in
theorem gL_ranked_X2_ranked : GoodIn wsL_ranked (wsV RL 90 RX2 yX2_ranked wsX2_ranked) := goodIn_app (goodIn_of _ (by decide +kernel)) ggL_ranked_X2_ranked
theorem dL_ranked_0 : decode cL_ranked 0 = .ok (.aload_n 2, 1) := by decide +kernel
theorem dL_ranked_1 : decode cL_ranked 1 = .ok (.iconst 0, 1) := by decide +kernel
theorem dL_ranked_2 : decode cL_ranked 2 = .ok (.aload_n 0, 1) := by decide +kernel
theorem dL_ranked_3 : decode cL_ranked 3 = .ok (.iload_n 1, 1) := by decide +kernel
theorem dL_ranked_4 : decode cL_ranked 4 = .ok (.invokevirtual 90, 3) := by decide +kernel
theorem dL_ranked_7 : decode cL_ranked 7 = .ok (.i2l, 1) := by decide +kernel
theorem dL_ranked_8 : decode cL_ranked 8 = .ok (.lastore, 1) := by decide +kernel
theorem dL_ranked_9 : decode cL_ranked 9 = .ok (.goto 6, 3) := by decide +kernel
theorem dL_ranked_12 : decode cL_ranked 12 = .ok (.astore_n 3, 1) := by decide +kernel
theorem dL_ranked_13 : decode cL_ranked 13 = .ok (.iconst 1, 1) := by decide +kernel
theorem dL_ranked_14 : decode cL_ranked 14 = .ok (.ireturn, 1) := by decide +kernel
theorem dL_ranked_15 : decode cL_ranked 15 = .ok (.iconst 0, 1) := by decide +kernel
theorem dL_ranked_16 : decode cL_ranked 16 = .ok (.ireturn, 1) := by decide +kernel
abbrev vwCl : List vw_C := [(RX0, TX0, 6), (RX1, TX1, 3), (RX2, TX2, 15), (RX3, TX3, 26)]
end
section
/-! plain facts to paste, each family by itself; over the kit's nI, lN and upd -/
/-! ===== drawers: more things than places ===== -/
theorem fb_holes : ∀ (m n : Nat) (f : Nat → Nat), (∀ i, i < n → f i < m) → (∀ i j, i < j → j < n → f i ≠ f j) → n ≤ m := by
  intro m
  induction m with
  | zero =>
    intro n f h1 _
    rcases Nat.eq_zero_or_pos n with h | h
    · omega
    · exact absurd (h1 0 h) (Nat.not_lt_zero _)
  | succ m ih =>
    intro n f h1 h2
    by_cases hx : ∃ i, i < n ∧ f i = m
    · obtain ⟨a, ha, hfa⟩ := hx
      have hg := ih (n - 1) (fun i => if i < a then f i else f (i + 1)) (by
        intro i hi
        by_cases q : i < a
        · simp only [if_pos q]
          have b1 := h1 i (by omega)
          have b2 := h2 i a q ha
          omega
        · simp only [if_neg q]
          have b1 := h1 (i + 1) (by omega)
          have b2 := h2 a (i + 1) (by omega) (by omega)
          omega) (by
        intro i j hij hj
        by_cases q : i < a
        · by_cases r : j < a
          · simp only [if_pos q, if_pos r]
            exact h2 i j hij (by omega)
          · simp only [if_pos q, if_neg r]
            exact h2 i (j + 1) (by omega) (by omega)
        · have r : ¬ j < a := by omega
          simp only [if_neg q, if_neg r]
          exact h2 (i + 1) (j + 1) (by omega) (by omega))
      omega
    · have hg := ih n f (fun i hi => by
        have b1 := h1 i hi
        have b2 : f i ≠ m := fun e => hx ⟨i, hi, e⟩
        omega) h2
      omega
/-- two of them in one place -/
theorem fb_twice {m n : Nat} {f : Nat → Nat} (h : ∀ i, i < n → f i < m) (hm : m < n) : ∃ i j, i < j ∧ j < n ∧ f i = f j := by
  refine Classical.byContradiction fun hx => ?_
  have := fb_holes m n f h (fun i j hij hj e => hx ⟨i, j, hij, hj, e⟩)
  omega
/-- as many as places, none twice: each place is taken -/
theorem fb_onto {n : Nat} {f : Nat → Nat} (h : ∀ i, i < n → f i < n) (h2 : ∀ i j, i < j → j < n → f i ≠ f j) {y : Nat} (hy : y < n) : ∃ i, i < n ∧ f i = y := by
  refine Classical.byContradiction fun hx => ?_
  have hne : ∀ i, i < n → f i ≠ y := fun i hi e => hx ⟨i, hi, e⟩
  have := fb_holes (n - 1) n (fun i => if f i < y then f i else f i - 1) (by
    intro i hi
    have b1 := h i hi
    have b2 := hne i hi
    by_cases q : f i < y
    · simp only [if_pos q]; omega
    · simp only [if_neg q]; omega) (by
    intro i j hij hj
    have b1 := hne i (by omega)
    have b2 := hne j hj
    have b3 := h2 i j hij hj
    by_cases q : f i < y
    · by_cases r : f j < y
      · simp only [if_pos q, if_pos r]; exact b3
      · simp only [if_pos q, if_neg r]; omega
    · by_cases r : f j < y
      · simp only [if_neg q, if_pos r]; omega
      · simp only [if_neg q, if_neg r]; omega)
  omega
/-! ===== how many places have a property ===== -/
def fb_ct (p : Nat → Bool) : Nat → Nat
  | 0 => 0
  | n + 1 => fb_ct p n + (if p n then 1 else 0)
theorem fb_ct_succ (p : Nat → Bool) (n : Nat) : fb_ct p (n + 1) = fb_ct p n + (if p n then 1 else 0) := rfl
theorem fb_ct_le (p : Nat → Bool) : ∀ n, fb_ct p n ≤ n
  | 0 => Nat.le_refl _
  | n + 1 => by
    have h := fb_ct_le p n
    rw [fb_ct_succ]
    split <;> omega
theorem fb_ct_step (p : Nat → Bool) (m : Nat) : ∀ n, fb_ct p m ≤ fb_ct p (m + n)
  | 0 => Nat.le_refl _
  | n + 1 => by
    have h := fb_ct_step p m n
    show fb_ct p m ≤ fb_ct p (m + n + 1)
    rw [fb_ct_succ]
    omega
theorem fb_ct_mono (p : Nat → Bool) {m n : Nat} (h : m ≤ n) : fb_ct p m ≤ fb_ct p n := by
  have := fb_ct_step p m (n - m)
  rwa [Nat.add_sub_cancel' h] at this
theorem fb_ct_cong {p q : Nat → Bool} : ∀ {n : Nat}, (∀ k, k < n → p k = q k) → fb_ct p n = fb_ct q n
  | 0, _ => rfl
  | n + 1, h => by
    rw [fb_ct_succ, fb_ct_succ, fb_ct_cong (fun k hk => h k (by omega)), h n (by omega)]
/-- one place changed -/
theorem fb_ct_out (p : Nat → Bool) (b : Bool) {i n : Nat} (h : n ≤ i) : fb_ct (fun k => if k = i then b else p k) n = fb_ct p n :=
  fb_ct_cong fun k hk => if_neg (by omega)
theorem fb_ct_upd (p : Nat → Bool) (b : Bool) {i : Nat} : ∀ {n : Nat}, i < n → fb_ct (fun k => if k = i then b else p k) n + (if p i then 1 else 0) = fb_ct p n + (if b then 1 else 0)
  | 0, h => absurd h (Nat.not_lt_zero i)
  | n + 1, h => by
    rw [fb_ct_succ, fb_ct_succ]
    rcases Nat.lt_or_ge i n with q | q
    · have := fb_ct_upd p b q
      have e : (if n = i then b else p n) = p n := if_neg (by omega)
      rw [e]
      omega
    · have e : i = n := by omega
      subst e
      rw [fb_ct_out p b (Nat.le_refl _)]
      simp only [if_true]
      omega
theorem fb_ct_sub {p q : Nat → Bool} : ∀ {n : Nat}, (∀ k, k < n → p k = true → q k = true) → fb_ct p n ≤ fb_ct q n
  | 0, _ => Nat.le_refl _
  | n + 1, h => by
    have h1 := fb_ct_sub (n := n) (p := p) (q := q) (fun k hk => h k (by omega))
    have h2 := h n (by omega)
    rw [fb_ct_succ, fb_ct_succ]
    cases hp : p n <;> cases hq : q n <;> simp_all <;> omega
theorem fb_ct_or {p q : Nat → Bool} : ∀ {n : Nat}, (∀ k, k < n → ¬ (p k = true ∧ q k = true)) → fb_ct (fun k => p k || q k) n = fb_ct p n + fb_ct q n
  | 0, _ => rfl
  | n + 1, h => by
    have h1 := fb_ct_or (n := n) (p := p) (q := q) (fun k hk => h k (by omega))
    have h2 := h n (by omega)
    rw [fb_ct_succ, fb_ct_succ, fb_ct_succ, h1]
    cases hp : p n <;> cases hq : q n <;> simp_all <;> omega
theorem fb_ct_not (p : Nat → Bool) : ∀ n, fb_ct p n + fb_ct (fun k => !p k) n = n
  | 0 => rfl
  | n + 1 => by
    have h := fb_ct_not p n
    rw [fb_ct_succ, fb_ct_succ]
    cases p n <;> simp <;> omega
theorem fb_ct_split (p : Nat → Bool) (m : Nat) : ∀ n, fb_ct p (m + n) = fb_ct p m + fb_ct (fun k => p (m + k)) n
  | 0 => rfl
  | n + 1 => by
    have h := fb_ct_split p m n
    show fb_ct p (m + n + 1) = _
    rw [fb_ct_succ, fb_ct_succ, h, Nat.add_assoc]
theorem fb_ct_zero {p : Nat → Bool} : ∀ {n : Nat}, fb_ct p n = 0 ↔ ∀ k, k < n → p k = false
  | 0 => ⟨fun _ k hk => absurd hk (Nat.not_lt_zero k), fun _ => rfl⟩
  | n + 1 => by
    have h := fb_ct_zero (p := p) (n := n)
    rw [fb_ct_succ]
    constructor
    · intro e k hk
      have e1 : fb_ct p n = 0 := by omega
      rcases Nat.lt_or_ge k n with q | q
      · exact h.mp e1 k q
      · have ek : k = n := by omega
        subst ek
        cases hp : p k
        · rfl
        · simp [hp] at e
    · intro a
      rw [h.mpr (fun k hk => a k (by omega)), a n (by omega)]
      rfl
theorem fb_ct_pos {p : Nat → Bool} {n : Nat} : 0 < fb_ct p n ↔ ∃ k, k < n ∧ p k = true := by
  constructor
  · intro h
    refine Classical.byContradiction fun hx => ?_
    have := fb_ct_zero.mpr (fun k hk => by
      cases hp : p k
      · rfl
      · exact absurd ⟨k, hk, hp⟩ hx : ∀ k, k < n → p k = false)
    omega
  · rintro ⟨k, hk, hp⟩
    rcases Nat.eq_zero_or_pos (fb_ct p n) with e | e
    · have := fb_ct_zero.mp e k hk
      rw [this] at hp
      cases hp
    · exact e
theorem fb_ct_all {p : Nat → Bool} {n : Nat} : fb_ct p n = n ↔ ∀ k, k < n → p k = true := by
  have h := fb_ct_not p n
  constructor
  · intro e k hk
    have z : fb_ct (fun k => !p k) n = 0 := by omega
    have := fb_ct_zero.mp z k hk
    cases hp : p k
    · simp [hp] at this
    · rfl
  · intro a
    have z : fb_ct (fun k => !p k) n = 0 := fb_ct_zero.mpr (fun k hk => by simp [a k hk])
    omega
/-- the k-th place with the property -/
theorem fb_ct_kth {p : Nat → Bool} {k : Nat} : ∀ {n : Nat}, k < fb_ct p n → ∃ i, i < n ∧ p i = true ∧ fb_ct p i = k
  | 0, h => absurd h (Nat.not_lt_zero k)
  | n + 1, h => by
    rcases Nat.lt_or_ge k (fb_ct p n) with q | q
    · obtain ⟨i, h1, h2⟩ := fb_ct_kth q
      exact ⟨i, by omega, h2⟩
    · rw [fb_ct_succ] at h
      cases hp : p n
      · simp [hp] at h; omega
      · simp [hp] at h
        exact ⟨n, by omega, hp, by omega⟩
theorem fb_ct_kth_one {p : Nat → Bool} {i j : Nat} (hi : p i = true) (hj : p j = true) (e : fb_ct p i = fb_ct p j) : i = j := by
  have key : ∀ a b : Nat, a < b → p a = true → fb_ct p a < fb_ct p b := by
    intro a b hab ha
    have h := fb_ct_mono p (show a + 1 ≤ b from hab)
    rw [fb_ct_succ, ha] at h
    simp at h
    omega
  rcases Nat.lt_trichotomy i j with q | q | q
  · have := key i j q hi; omega
  · exact q
  · have := key j i q hj; omega
/-! ===== sums over a range: one place changed, parts, bounds ===== -/
def fb_sm (f : Nat → Nat) : Nat → Nat
  | 0 => 0
  | n + 1 => fb_sm f n + f n
theorem fb_sm_succ (f : Nat → Nat) (n : Nat) : fb_sm f (n + 1) = fb_sm f n + f n := rfl
theorem fb_sm_cong {f g : Nat → Nat} : ∀ {n : Nat}, (∀ k, k < n → f k = g k) → fb_sm f n = fb_sm g n
  | 0, _ => rfl
  | n + 1, h => by rw [fb_sm_succ, fb_sm_succ, fb_sm_cong (fun k hk => h k (by omega)), h n (by omega)]
theorem fb_sm_out (f : Nat → Nat) (v : Nat) {i n : Nat} (h : n ≤ i) : fb_sm (fun k => if k = i then v else f k) n = fb_sm f n :=
  fb_sm_cong fun k hk => if_neg (by omega)
theorem fb_sm_upd (f : Nat → Nat) (v : Nat) {i : Nat} : ∀ {n : Nat}, i < n → fb_sm (fun k => if k = i then v else f k) n + f i = fb_sm f n + v
  | 0, h => absurd h (Nat.not_lt_zero i)
  | n + 1, h => by
    rw [fb_sm_succ, fb_sm_succ]
    rcases Nat.lt_or_ge i n with q | q
    · have := fb_sm_upd f v q
      have e : (if n = i then v else f n) = f n := if_neg (by omega)
      rw [e]
      omega
    · have e : i = n := by omega
      subst e
      rw [fb_sm_out f v (Nat.le_refl _)]
      simp only [if_true]
      omega
theorem fb_sm_add (f g : Nat → Nat) : ∀ n, fb_sm (fun k => f k + g k) n = fb_sm f n + fb_sm g n
  | 0 => rfl
  | n + 1 => by
    have h := fb_sm_add f g n
    rw [fb_sm_succ, fb_sm_succ, fb_sm_succ, h]
    omega
theorem fb_sm_le {f g : Nat → Nat} : ∀ {n : Nat}, (∀ k, k < n → f k ≤ g k) → fb_sm f n ≤ fb_sm g n
  | 0, _ => Nat.le_refl _
  | n + 1, h => by
    have h1 := fb_sm_le (n := n) (f := f) (g := g) (fun k hk => h k (by omega))
    have h2 := h n (by omega)
    rw [fb_sm_succ, fb_sm_succ]
    omega
theorem fb_sm_const (c : Nat) : ∀ n, fb_sm (fun _ => c) n = n * c
  | 0 => by rw [Nat.zero_mul]; rfl
  | n + 1 => by rw [fb_sm_succ, fb_sm_const c n, Nat.succ_mul]
theorem fb_sm_bound {f : Nat → Nat} {c n : Nat} (h : ∀ k, k < n → f k ≤ c) : fb_sm f n ≤ n * c := by
  rw [← fb_sm_const c n]
  exact fb_sm_le h
theorem fb_sm_mono (f : Nat → Nat) (m : Nat) : ∀ n, fb_sm f m ≤ fb_sm f (m + n)
  | 0 => Nat.le_refl _
  | n + 1 => by
    have h := fb_sm_mono f m n
    show fb_sm f m ≤ fb_sm f (m + n + 1)
    rw [fb_sm_succ]
    omega
theorem fb_sm_part (f : Nat → Nat) {i n : Nat} (h : i < n) : fb_sm f i + f i ≤ fb_sm f n := by
  have := fb_sm_mono f (i + 1) (n - (i + 1))
  rw [fb_sm_succ, show i + 1 + (n - (i + 1)) = n by omega] at this
  exact this
theorem fb_sm_split (f : Nat → Nat) (m : Nat) : ∀ n, fb_sm f (m + n) = fb_sm f m + fb_sm (fun k => f (m + k)) n
  | 0 => rfl
  | n + 1 => by
    have h := fb_sm_split f m n
    show fb_sm f (m + n + 1) = _
    rw [fb_sm_succ, fb_sm_succ, h, Nat.add_assoc]
theorem fb_sm_zero {f : Nat → Nat} {n : Nat} (h : fb_sm f n = 0) : ∀ k, k < n → f k = 0 := fun k hk => by
  have := fb_sm_part f hk
  omega
/-- the same over whole numbers -/
def fb_si (f : Nat → Int) : Nat → Int
  | 0 => 0
  | n + 1 => fb_si f n + f n
theorem fb_si_succ (f : Nat → Int) (n : Nat) : fb_si f (n + 1) = fb_si f n + f n := rfl
theorem fb_si_cong {f g : Nat → Int} : ∀ {n : Nat}, (∀ k, k < n → f k = g k) → fb_si f n = fb_si g n
  | 0, _ => rfl
  | n + 1, h => by rw [fb_si_succ, fb_si_succ, fb_si_cong (fun k hk => h k (by omega)), h n (by omega)]
theorem fb_si_out (f : Nat → Int) (v : Int) {i n : Nat} (h : n ≤ i) : fb_si (fun k => if k = i then v else f k) n = fb_si f n :=
  fb_si_cong fun k hk => if_neg (by omega)
theorem fb_si_upd (f : Nat → Int) (v : Int) {i : Nat} : ∀ {n : Nat}, i < n → fb_si (fun k => if k = i then v else f k) n = fb_si f n - f i + v
  | 0, h => absurd h (Nat.not_lt_zero i)
  | n + 1, h => by
    rw [fb_si_succ, fb_si_succ]
    rcases Nat.lt_or_ge i n with q | q
    · have := fb_si_upd f v q
      have e : (if n = i then v else f n) = f n := if_neg (by omega)
      rw [e]
      omega
    · have e : i = n := by omega
      subst e
      rw [fb_si_out f v (Nat.le_refl _)]
      simp only [if_true]
      omega
theorem fb_si_add (f g : Nat → Int) : ∀ n, fb_si (fun k => f k + g k) n = fb_si f n + fb_si g n
  | 0 => rfl
  | n + 1 => by
    have h := fb_si_add f g n
    rw [fb_si_succ, fb_si_succ, fb_si_succ, h]
    omega
theorem fb_si_sub (f g : Nat → Int) : ∀ n, fb_si (fun k => f k - g k) n = fb_si f n - fb_si g n
  | 0 => rfl
  | n + 1 => by
    have h := fb_si_sub f g n
    rw [fb_si_succ, fb_si_succ, fb_si_succ, h]
    omega
theorem fb_si_mul (c : Int) (f : Nat → Int) : ∀ n, fb_si (fun k => c * f k) n = c * fb_si f n
  | 0 => (Int.mul_zero c).symm
  | n + 1 => by
    have h := fb_si_mul c f n
    rw [fb_si_succ, fb_si_succ, h, Int.mul_add]
theorem fb_si_split (f : Nat → Int) (m : Nat) : ∀ n, fb_si f (m + n) = fb_si f m + fb_si (fun k => f (m + k)) n
  | 0 => (Int.add_zero _).symm
  | n + 1 => by
    have h := fb_si_split f m n
    show fb_si f (m + n + 1) = _
    rw [fb_si_succ, fb_si_succ, h, Int.add_assoc]
theorem fb_si_nat (f : Nat → Nat) : ∀ n, fb_si (fun k => (f k : Int)) n = (fb_sm f n : Int)
  | 0 => rfl
  | n + 1 => by
    have h := fb_si_nat f n
    rw [fb_si_succ, fb_sm_succ, h]
    omega
theorem fb_si_bound {f : Nat → Int} {c : Int} (hc : 0 ≤ c) : ∀ {n : Nat}, (∀ k, k < n → -c ≤ f k ∧ f k ≤ c) → -(n * c) ≤ fb_si f n ∧ fb_si f n ≤ n * c
  | 0, _ => by simp [fb_si]
  | n + 1, h => by
    have h1 := fb_si_bound (n := n) (f := f) hc (fun k hk => h k (by omega))
    have h2 := h n (by omega)
    have e : ((n + 1 : Nat) : Int) * c = n * c + c := by rw [Int.natCast_add, Int.add_mul]; simp
    rw [fb_si_succ, e]
    omega
/-! ===== bits of a long that isn't negative ===== -/
theorem fb_andL (a b : Nat) : lN a &&& lN b = lN (a &&& b) := by
  apply Int64.toBitVec_inj.1
  show BitVec.ofNat 64 a &&& BitVec.ofNat 64 b = BitVec.ofNat 64 (a &&& b)
  apply BitVec.eq_of_getLsbD_eq
  intro i hi
  simp [hi]
theorem fb_orL (a b : Nat) : lN a ||| lN b = lN (a ||| b) := by
  apply Int64.toBitVec_inj.1
  show BitVec.ofNat 64 a ||| BitVec.ofNat 64 b = BitVec.ofNat 64 (a ||| b)
  apply BitVec.eq_of_getLsbD_eq
  intro i hi
  simp [hi]
theorem fb_xorL (a b : Nat) : lN a ^^^ lN b = lN (a ^^^ b) := by
  apply Int64.toBitVec_inj.1
  show BitVec.ofNat 64 a ^^^ BitVec.ofNat 64 b = BitVec.ofNat 64 (a ^^^ b)
  apply BitVec.eq_of_getLsbD_eq
  intro i hi
  simp [hi]
theorem fb_xorI (a b : Nat) : nI a ^^^ nI b = nI (a ^^^ b) := by
  apply Int32.toBitVec_inj.1
  show BitVec.ofNat 32 a ^^^ BitVec.ofNat 32 b = BitVec.ofNat 32 (a ^^^ b)
  apply BitVec.eq_of_getLsbD_eq
  intro i hi
  simp [hi]
theorem fb_maskL (n k : Nat) : lN n &&& lN (2 ^ k - 1) = lN (n % 2 ^ k) := by rw [fb_andL, Nat.and_two_pow_sub_one_eq_mod]
theorem fb_or_sumL {a k : Nat} (b : Nat) (h : a < 2 ^ k) : lN (2 ^ k * b) ||| lN a = lN (2 ^ k * b + a) := by rw [fb_orL, Nat.two_pow_add_eq_or_of_lt h]
theorem fb_lN_inj {a b : Nat} (ha : a < 2 ^ 63) (hb : b < 2 ^ 63) : lN a = lN b ↔ a = b := by
  constructor
  · intro h
    have h1 : (BitVec.ofNat 64 a).toNat = (BitVec.ofNat 64 b).toNat := congrArg (fun x : Int64 => x.toBitVec.toNat) h
    rw [BitVec.toNat_ofNat, BitVec.toNat_ofNat, Nat.mod_eq_of_lt (by omega), Nat.mod_eq_of_lt (by omega)] at h1
    exact h1
  · rintro rfl; rfl
theorem fb_bit_nat (n j : Nat) : n &&& 2 ^ j = 0 ↔ n.testBit j = false := by
  constructor
  · intro h
    have h1 : (n &&& 2 ^ j).testBit j = false := by rw [h]; simp
    rw [Nat.testBit_and] at h1
    simpa using h1
  · intro h
    apply Nat.eq_of_testBit_eq
    intro i
    rw [Nat.testBit_and]
    by_cases hi : j = i
    · subst hi; simp [h]
    · first | (simp [Nat.testBit_two_pow, hi]; done) | (simp [Nat.testBit_two_pow_of_ne hi]; done)
/-- one bit of a long -/
theorem fb_bitL {n j : Nat} (hj : j < 63) : lN n &&& lN (2 ^ j) = 0 ↔ n.testBit j = false := by
  have h2 : (2 : Nat) ^ j < 2 ^ 63 := Nat.pow_lt_pow_right (by decide) hj
  have hle : n &&& 2 ^ j ≤ 2 ^ j := Nat.and_le_right
  rw [fb_andL, ← fb_bit_nat, show (0 : Int64) = lN 0 from rfl]
  exact fb_lN_inj (by omega) (by decide)
/-- a bit set, a bit taken off -/
theorem fb_bit_set (n j i : Nat) : (n ||| 2 ^ j).testBit i = (n.testBit i || decide (i = j)) := by
  rw [Nat.testBit_or]
  by_cases h : j = i
  · subst h; simp
  · have h2 : ¬ i = j := fun e => h e.symm
    first | (simp [Nat.testBit_two_pow, h, h2]; done) | (simp [Nat.testBit_two_pow_of_ne h, h2]; done)
theorem fb_bit_flip (n j i : Nat) : (n ^^^ 2 ^ j).testBit i = (n.testBit i ^^ decide (i = j)) := by
  rw [Nat.testBit_xor]
  by_cases h : j = i
  · subst h; simp
  · have h2 : ¬ i = j := fun e => h e.symm
    first | (simp [Nat.testBit_two_pow, h, h2]; done) | (simp [Nat.testBit_two_pow_of_ne h, h2]; done)
/-! ===== a stretch of an array written over by a function ===== -/
def fb_put {α : Type} (f g : Nat → α) (a n : Nat) : Nat → α := fun k => if a ≤ k ∧ k < a + n then g (k - a) else f k
theorem fb_put_0 {α : Type} (f g : Nat → α) (a : Nat) : fb_put f g a 0 = f := funext fun k => if_neg (by omega)
theorem fb_put_in {α : Type} {f g : Nat → α} {a n k : Nat} (h1 : a ≤ k) (h2 : k < a + n) : fb_put f g a n k = g (k - a) := if_pos ⟨h1, h2⟩
theorem fb_put_out {α : Type} {f g : Nat → α} {a n k : Nat} (h : k < a ∨ a + n ≤ k) : fb_put f g a n k = f k := if_neg (by omega)
theorem fb_put_succ (f g : Nat → Int32) (a n : Nat) : upd (fb_put f g a n) (a + n) (g n) = fb_put f g a (n + 1) := by
  funext k
  by_cases h : k = a + n
  · subst h
    simp [upd, fb_put]
  · by_cases h1 : a ≤ k ∧ k < a + n
    · have h2 : a ≤ k ∧ k < a + (n + 1) := by omega
      simp only [upd, fb_put, if_neg h, if_pos h1, if_pos h2]
    · have h2 : ¬ (a ≤ k ∧ k < a + (n + 1)) := by omega
      simp only [upd, fb_put, if_neg h, if_neg h1, if_neg h2]
/-- .. from the far end down -/
theorem fb_put_down (f g : Nat → Int32) {a n m : Nat} (h : m < n) : upd (fb_put f (fun k => g (k + (m + 1))) (a + (m + 1)) (n - (m + 1))) (a + m) (g m) = fb_put f (fun k => g (k + m)) (a + m) (n - m) := by
  funext k
  by_cases h0 : k = a + m
  · subst h0
    simp only [upd, if_true]
    rw [fb_put_in (by omega) (by omega)]
    exact congrArg g (by omega)
  · simp only [upd, if_neg h0]
    by_cases h1 : a + (m + 1) ≤ k ∧ k < a + (m + 1) + (n - (m + 1))
    · rw [fb_put_in h1.1 h1.2, fb_put_in (by omega) (by omega)]
      exact congrArg g (by omega)
    · rw [fb_put_out (by omega), fb_put_out (by omega)]
theorem fb_put_cong {α : Type} {f f2 g g2 : Nat → α} {a n : Nat} (hf : ∀ k, (k < a ∨ a + n ≤ k) → f k = f2 k) (hg : ∀ k, k < n → g k = g2 k) : fb_put f g a n = fb_put f2 g2 a n := by
  funext k
  by_cases h : a ≤ k ∧ k < a + n
  · rw [fb_put_in h.1 h.2, fb_put_in h.1 h.2, hg _ (by omega)]
  · rw [fb_put_out (by omega), fb_put_out (by omega), hf _ (by omega)]
/-! ===== the least, the first, the best so far; that there is one alone ===== -/
theorem fb_first {p : Nat → Prop} [DecidablePred p] : ∀ {n : Nat}, (∃ i, i < n ∧ p i) → ∃ i, i < n ∧ p i ∧ ∀ j, j < i → ¬ p j
  | 0, h => by obtain ⟨i, hi, -⟩ := h; exact absurd hi (Nat.not_lt_zero i)
  | n + 1, h => by
    by_cases q : ∃ i, i < n ∧ p i
    · obtain ⟨i, h1, h2⟩ := fb_first q
      exact ⟨i, by omega, h2⟩
    · obtain ⟨i, h1, h2⟩ := h
      have e : i = n := by
        rcases Nat.lt_or_ge i n with r | r
        · exact absurd ⟨i, r, h2⟩ q
        · omega
      subst e
      exact ⟨i, by omega, h2, fun j hj hp => q ⟨j, hj, hp⟩⟩
theorem fb_first_one {p : Nat → Prop} {i j : Nat} (hi : p i) (hi2 : ∀ k, k < i → ¬ p k) (hj : p j) (hj2 : ∀ k, k < j → ¬ p k) : i = j := by
  rcases Nat.lt_trichotomy i j with q | q | q
  · exact absurd hi (hj2 i q)
  · exact q
  · exact absurd hj (hi2 j q)
theorem fb_last {p : Nat → Prop} [DecidablePred p] : ∀ {n : Nat}, (∃ i, i < n ∧ p i) → ∃ i, i < n ∧ p i ∧ ∀ j, i < j → j < n → ¬ p j
  | 0, h => by obtain ⟨i, hi, -⟩ := h; exact absurd hi (Nat.not_lt_zero i)
  | n + 1, h => by
    by_cases q : p n
    · exact ⟨n, by omega, q, fun j h1 h2 => by omega⟩
    · obtain ⟨i, h1, h2⟩ := h
      have hi : i < n := by
        rcases Nat.lt_or_ge i n with r | r
        · exact r
        · have e : i = n := by omega
          subst e
          exact absurd h2 q
      obtain ⟨i2, a1, a2, a3⟩ := fb_last (n := n) ⟨i, hi, h2⟩
      refine ⟨i2, by omega, a2, fun j b1 b2 => ?_⟩
      rcases Nat.lt_or_ge j n with r | r
      · exact a3 j b1 r
      · have e : j = n := by omega
        subst e
        exact q
/-- the first greatest -/
theorem fb_best (f : Nat → Int) : ∀ {n : Nat}, 0 < n → ∃ i, i < n ∧ (∀ j, j < n → f j ≤ f i) ∧ ∀ j, j < i → f j < f i
  | 0, h => absurd h (Nat.lt_irrefl 0)
  | 1, _ => ⟨0, by omega, fun j hj => by have e : j = 0 := by omega
                                         subst e; exact Int.le_refl _, fun j hj => absurd hj (Nat.not_lt_zero j)⟩
  | n + 2, _ => by
    obtain ⟨i, h1, h2, h3⟩ := fb_best f (n := n + 1) (by omega)
    by_cases q : f i < f (n + 1)
    · refine ⟨n + 1, by omega, fun j hj => ?_, fun j hj => ?_⟩
      · rcases Nat.lt_or_ge j (n + 1) with r | r
        · have := h2 j r; omega
        · have e : j = n + 1 := by omega
          subst e; exact Int.le_refl _
      · have := h2 j hj; omega
    · refine ⟨i, by omega, fun j hj => ?_, h3⟩
      rcases Nat.lt_or_ge j (n + 1) with r | r
      · exact h2 j r
      · have e : j = n + 1 := by omega
        subst e; omega
theorem fb_best_one {f : Nat → Int} {n i j : Nat} (hi : i < n) (hi2 : ∀ k, k < n → f k ≤ f i) (hi3 : ∀ k, k < i → f k < f i) (hj : j < n) (hj2 : ∀ k, k < n → f k ≤ f j) (hj3 : ∀ k, k < j → f k < f j) : i = j := by
  rcases Nat.lt_trichotomy i j with q | q | q
  · have a := hj3 i q
    have b := hi2 j hj
    omega
  · exact q
  · have a := hi3 j q
    have b := hj2 i hi
    omega
/-- the first least -/
theorem fb_low (f : Nat → Int) {n : Nat} (h : 0 < n) : ∃ i, i < n ∧ (∀ j, j < n → f i ≤ f j) ∧ ∀ j, j < i → f i < f j := by
  obtain ⟨i, h1, h2, h3⟩ := fb_best (fun k => -f k) h
  exact ⟨i, h1, fun j hj => by have := h2 j hj; omega, fun j hj => by have := h3 j hj; omega⟩
/-! ===== signed ints as whole numbers, within bounds ===== -/
theorem fb_rng (x : Int32) : -2147483648 ≤ x.toInt ∧ x.toInt < 2147483648 := by
  have h1 := Int32.le_toInt x
  have h2 := Int32.toInt_lt x
  omega
theorem fb_bmod {z : Int} (h1 : -2147483648 ≤ z) (h2 : z < 2147483648) : z.bmod (2 ^ 32) = z := by
  rw [Int.bmod_eq_of_le (by omega) (by omega)]
theorem fb_addI {x y : Int32} (h1 : -2147483648 ≤ x.toInt + y.toInt) (h2 : x.toInt + y.toInt < 2147483648) : (x + y).toInt = x.toInt + y.toInt := by
  rw [Int32.toInt_add, fb_bmod h1 h2]
theorem fb_subI {x y : Int32} (h1 : -2147483648 ≤ x.toInt - y.toInt) (h2 : x.toInt - y.toInt < 2147483648) : (x - y).toInt = x.toInt - y.toInt := by
  rw [Int32.toInt_sub, fb_bmod h1 h2]
theorem fb_mulI {x y : Int32} (h1 : -2147483648 ≤ x.toInt * y.toInt) (h2 : x.toInt * y.toInt < 2147483648) : (x * y).toInt = x.toInt * y.toInt := by
  rw [Int32.toInt_mul, fb_bmod h1 h2]
theorem fb_negI {x : Int32} (h : x.toInt ≠ -2147483648) : (-x).toInt = -x.toInt := by
  have := fb_rng x
  rw [Int32.toInt_neg, fb_bmod (by omega) (by omega)]
theorem fb_ofI {z : Int} (h1 : -2147483648 ≤ z) (h2 : z < 2147483648) : (Int32.ofInt z).toInt = z := by
  rw [Int32.toInt_ofInt, fb_bmod h1 h2]
theorem fb_asI (x : Int32) : Int32.ofInt x.toInt = x := Int32.ofInt_toInt x
theorem fb_rngL (x : Int64) : -9223372036854775808 ≤ x.toInt ∧ x.toInt < 9223372036854775808 := by
  have h1 := Int64.le_toInt x
  have h2 := Int64.toInt_lt x
  omega
theorem fb_bmodL {z : Int} (h1 : -9223372036854775808 ≤ z) (h2 : z < 9223372036854775808) : z.bmod (2 ^ 64) = z := by
  rw [Int.bmod_eq_of_le (by omega) (by omega)]
theorem fb_addL {x y : Int64} (h1 : -9223372036854775808 ≤ x.toInt + y.toInt) (h2 : x.toInt + y.toInt < 9223372036854775808) : (x + y).toInt = x.toInt + y.toInt := by
  rw [Int64.toInt_add, fb_bmodL h1 h2]
theorem fb_subL {x y : Int64} (h1 : -9223372036854775808 ≤ x.toInt - y.toInt) (h2 : x.toInt - y.toInt < 9223372036854775808) : (x - y).toInt = x.toInt - y.toInt := by
  rw [Int64.toInt_sub, fb_bmodL h1 h2]
theorem fb_mulL {x y : Int64} (h1 : -9223372036854775808 ≤ x.toInt * y.toInt) (h2 : x.toInt * y.toInt < 9223372036854775808) : (x * y).toInt = x.toInt * y.toInt := by
  rw [Int64.toInt_mul, fb_bmodL h1 h2]
/-! ===== cuts of what is narrow already ===== -/
theorem fb_byte {x : Int32} (h1 : -128 ≤ x.toInt) (h2 : x.toInt < 128) : x.toInt8.toInt32 = x := by
  apply Int32.toInt_inj.1
  rw [Int8.toInt_toInt32, Int32.toInt_toInt8, Int.bmod_eq_of_le (by omega) (by omega)]
theorem fb_short {x : Int32} (h1 : -32768 ≤ x.toInt) (h2 : x.toInt < 32768) : x.toInt16.toInt32 = x := by
  apply Int32.toInt_inj.1
  rw [Int16.toInt_toInt32, Int32.toInt_toInt16, Int.bmod_eq_of_le (by omega) (by omega)]
theorem fb_byte_rng (x : Int32) : -128 ≤ x.toInt8.toInt32.toInt ∧ x.toInt8.toInt32.toInt < 128 := by
  rw [Int8.toInt_toInt32]
  have h1 := Int8.le_toInt x.toInt8
  have h2 := Int8.toInt_lt x.toInt8
  omega
theorem fb_short_rng (x : Int32) : -32768 ≤ x.toInt16.toInt32.toInt ∧ x.toInt16.toInt32.toInt < 32768 := by
  rw [Int16.toInt_toInt32]
  have h1 := Int16.le_toInt x.toInt16
  have h2 := Int16.toInt_lt x.toInt16
  omega
theorem fb_byte_twice (x : Int32) : x.toInt8.toInt32.toInt8.toInt32 = x.toInt8.toInt32 := fb_byte (fb_byte_rng x).1 (fb_byte_rng x).2
theorem fb_short_twice (x : Int32) : x.toInt16.toInt32.toInt16.toInt32 = x.toInt16.toInt32 := fb_short (fb_short_rng x).1 (fb_short_rng x).2
theorem fb_char {n : Nat} (h : n < 65536) : (nI n).toUInt32.toUInt16.toUInt32.toInt32 = nI n := by
  apply Int32.toBitVec_inj.1
  apply BitVec.eq_of_toNat_eq
  have e1 : (nI n).toBitVec.toNat = n := by
    show (BitVec.ofNat 32 n).toNat = n
    rw [BitVec.toNat_ofNat, Nat.mod_eq_of_lt (by omega)]
  have e2 : ((nI n).toUInt32.toUInt16.toUInt32).toNat = n := by
    rw [UInt16.toNat_toUInt32, UInt32.toNat_toUInt16]
    show (nI n).toBitVec.toNat % 2 ^ 16 = n
    rw [e1, Nat.mod_eq_of_lt (by omega)]
  rw [e1]
  exact e2
end
section
abbrev q_E : Type := va_G × (Nat → Nat) × (ClassId × ClassId × ClassId × ClassId × ClassId)
abbrev q_V : Type := Nat → Nat → Int32
abbrev q_G : Type := Nat → Nat → Int64
/-- what kind of thing each number stands for: 1 int[], 2 long[], 3 boolean[], 4 Grid[], 5 int[][], 10 the system, 11 its barter, 12 a grid, 13 the reference -/
def q_kds : List Nat := [10, 5, 1, 1, 4, 1, 1, 1, 1, 11, 4, 1, 2, 1, 1, 3, 1, 1, 2, 13, 1, 1, 1, 1, 1, 1, 1, 12, 12, 12, 12, 12, 12, 12, 12, 12, 12, 12, 12, 12, 12, 12, 12, 12, 12, 12, 12, 12, 1, 1, 1, 1, 1, 1, 1, 1, 1, 1, 1, 1, 1, 1, 1, 1, 1, 1, 1, 1, 1, 1, 1, 1, 1, 1, 1, 1, 1, 1, 1, 1, 1, 1, 1, 1, 1, 1, 1, 1, 1, 2]
def q_lens : List Nat := [0, 7, 8, 8, 12, 12, 20, 20, 7, 0, 8, 8, 7, 7, 7, 7, 7, 7, 1, 0, 8, 8, 8, 8, 8, 8, 8, 0, 0, 0, 0, 0, 0, 0, 0, 0, 0, 0, 0, 0, 0, 0, 0, 0, 0, 0, 0, 0, 48, 48, 48, 48, 48, 48, 48, 48, 48, 48, 48, 48, 48, 48, 48, 48, 48, 48, 48, 48, 48, 56, 8, 8, 48, 12, 12, 576, 12, 12, 20, 20, 7, 7, 7, 7, 7, 8, 8, 72, 8, 7]
def q_kd (k : Nat) : Nat := q_kds.getD k 0
def q_len (k : Nat) : Nat := q_lens.getD k 0
def q_en (σ : q_E) (k : Nat) (v : Nat → Int32) (w : Nat → Int64) : va_E :=
  if q_kd k = 1 then .inl (σ.2.2.1, q_len k, .inl v)
  else if q_kd k = 2 then .inl (σ.2.2.2.1, q_len k, .inr (.inl w))
  else if q_kd k = 3 then .inl (σ.2.2.2.2.1, q_len k, .inl v)
  else if q_kd k = 4 then .inl (σ.2.2.2.2.2.1, q_len k, .inr (.inr (.inr (.inr (fun i => some (σ.2.1 ((if k = 4 then 28 else 40) + i)))))))
  else if q_kd k = 5 then .inl (σ.2.2.2.2.2.2, q_len k, .inr (.inr (.inr (.inr (fun i => some (σ.2.1 (20 + i)))))))
  else if q_kd k = 12 then .inr (1, [.ref (σ.2.1 (k + 21)), .int (v 1), .int (v 2)])
  else if q_kd k = 10 then .inr (2, [.ref (σ.2.1 1), .ref (σ.2.1 2), .ref (σ.2.1 3), .ref (σ.2.1 27), .ref (σ.2.1 4), .ref (σ.2.1 5), .int (v 6), .ref (σ.2.1 6), .ref (σ.2.1 7), .ref (σ.2.1 8), .ref (σ.2.1 9), .ref (σ.2.1 10), .ref (σ.2.1 11), .int (v 13), .ref (σ.2.1 12)])
  else if q_kd k = 11 then .inr (0, [.ref (σ.2.1 13), .ref (σ.2.1 14), .ref (σ.2.1 15), .ref (σ.2.1 16), .ref (σ.2.1 17), .int (v 5)])
  else .inr (3, [.int (v 0), .ref (σ.2.1 69), .ref (σ.2.1 70), .ref (σ.2.1 71), .int (v 4), .int (v 5), .ref (σ.2.1 72), .int (v 7), .ref (σ.2.1 73), .ref (σ.2.1 74), .ref (σ.2.1 75), .ref (σ.2.1 76), .ref (σ.2.1 77), .ref (σ.2.1 78), .ref (σ.2.1 79), .ref (σ.2.1 80), .ref (σ.2.1 81), .ref (σ.2.1 82), .ref (σ.2.1 83), .ref (σ.2.1 84), .int (v 20), .ref (σ.2.1 85), .ref (σ.2.1 86), .ref (σ.2.1 87), .ref (σ.2.1 88), .ref (σ.2.1 89)])
theorem q_en1 {σ : q_E} {k : Nat} {v : Nat → Int32} {w : Nat → Int64} (h : q_kd k = 1) : q_en σ k v w = .inl (σ.2.2.1, q_len k, .inl v) := by unfold q_en; rw [if_pos h]
theorem q_en2 {σ : q_E} {k : Nat} {v : Nat → Int32} {w : Nat → Int64} (h : q_kd k = 2) : q_en σ k v w = .inl (σ.2.2.2.1, q_len k, .inr (.inl w)) := by unfold q_en; rw [if_neg (by omega), if_pos h]
theorem q_en3 {σ : q_E} {k : Nat} {v : Nat → Int32} {w : Nat → Int64} (h : q_kd k = 3) : q_en σ k v w = .inl (σ.2.2.2.2.1, q_len k, .inl v) := by unfold q_en; rw [if_neg (by omega), if_neg (by omega), if_pos h]
theorem q_en4 {σ : q_E} {k : Nat} {v : Nat → Int32} {w : Nat → Int64} (h : q_kd k = 4) : q_en σ k v w = .inl (σ.2.2.2.2.2.1, q_len k, .inr (.inr (.inr (.inr (fun i => some (σ.2.1 ((if k = 4 then 28 else 40) + i))))))) := by unfold q_en; rw [if_neg (by omega), if_neg (by omega), if_neg (by omega), if_pos h]
theorem q_en5 {σ : q_E} {k : Nat} {v : Nat → Int32} {w : Nat → Int64} (h : q_kd k = 5) : q_en σ k v w = .inl (σ.2.2.2.2.2.2, q_len k, .inr (.inr (.inr (.inr (fun i => some (σ.2.1 (20 + i))))))) := by unfold q_en; rw [if_neg (by omega), if_neg (by omega), if_neg (by omega), if_neg (by omega), if_pos h]
theorem q_en12 {σ : q_E} {k : Nat} {v : Nat → Int32} {w : Nat → Int64} (h : q_kd k = 12) : q_en σ k v w = .inr (1, [.ref (σ.2.1 (k + 21)), .int (v 1), .int (v 2)]) := by unfold q_en; rw [if_neg (by omega), if_neg (by omega), if_neg (by omega), if_neg (by omega), if_neg (by omega), if_pos h]
theorem q_enBP {σ : q_E} {v : Nat → Int32} {w : Nat → Int64} : q_en σ 0 v w = .inr (2, [.ref (σ.2.1 1), .ref (σ.2.1 2), .ref (σ.2.1 3), .ref (σ.2.1 27), .ref (σ.2.1 4), .ref (σ.2.1 5), .int (v 6), .ref (σ.2.1 6), .ref (σ.2.1 7), .ref (σ.2.1 8), .ref (σ.2.1 9), .ref (σ.2.1 10), .ref (σ.2.1 11), .int (v 13), .ref (σ.2.1 12)]) := rfl
theorem q_enBA {σ : q_E} {v : Nat → Int32} {w : Nat → Int64} : q_en σ 9 v w = .inr (0, [.ref (σ.2.1 13), .ref (σ.2.1 14), .ref (σ.2.1 15), .ref (σ.2.1 16), .ref (σ.2.1 17), .int (v 5)]) := rfl
theorem q_enMO {σ : q_E} {v : Nat → Int32} {w : Nat → Int64} : q_en σ 19 v w = .inr (3, [.int (v 0), .ref (σ.2.1 69), .ref (σ.2.1 70), .ref (σ.2.1 71), .int (v 4), .int (v 5), .ref (σ.2.1 72), .int (v 7), .ref (σ.2.1 73), .ref (σ.2.1 74), .ref (σ.2.1 75), .ref (σ.2.1 76), .ref (σ.2.1 77), .ref (σ.2.1 78), .ref (σ.2.1 79), .ref (σ.2.1 80), .ref (σ.2.1 81), .ref (σ.2.1 82), .ref (σ.2.1 83), .ref (σ.2.1 84), .int (v 20), .ref (σ.2.1 85), .ref (σ.2.1 86), .ref (σ.2.1 87), .ref (σ.2.1 88), .ref (σ.2.1 89)]) := rfl
def q_ws (σ : q_E) (V : q_V) (G : q_G) : va_W := (List.range 90).map (fun k => (σ.2.1 k, q_en σ k (V k) (G k)))
theorem q_ws_at {σ : q_E} {V : q_V} {G : q_G} {k : Nat} (hk : k < 90) : (q_ws σ V G)[k]? = some (σ.2.1 k, q_en σ k (V k) (G k)) := by simp [q_ws, hk]
theorem q_ws_in {σ : q_E} {V : q_V} {G : q_G} {k : Nat} {q : Nat × va_E} (h : (q_ws σ V G)[k]? = some q) : k < 90 ∧ q = (σ.2.1 k, q_en σ k (V k) (G k)) := by
  have hk : k < 90 := by
    have h1 := (List.getElem?_eq_some_iff.mp h).1
    simpa [q_ws] using h1
  rw [q_ws_at hk] at h
  exact ⟨hk, (Option.some.inj h).symm⟩
theorem q_ws_set {σ : q_E} {V V' : q_V} {G G' : q_G} {k : Nat} {e : va_E} (he : q_en σ k (V' k) (G' k) = e) (ho : ∀ j, j ≠ k → V' j = V j ∧ G' j = G j) : (q_ws σ V G).set k (σ.2.1 k, e) = q_ws σ V' G' := by
  apply List.ext_getElem?
  intro j
  by_cases hj : j = k
  · subst hj
    by_cases hl : j < 90
    · rw [List.getElem?_set_self (by simp [q_ws, hl]), q_ws_at hl, he]
    · have h1 : (q_ws σ V' G').length ≤ j := by simp [q_ws]; omega
      have h2 : ((q_ws σ V G).set j (σ.2.1 j, e)).length ≤ j := by simp [q_ws]; omega
      rw [List.getElem?_eq_none h1, List.getElem?_eq_none h2]
  · rw [List.getElem?_set_ne (Ne.symm hj)]
    by_cases hl : j < 90
    · rw [q_ws_at hl, q_ws_at hl, (ho j hj).1, (ho j hj).2]
    · have h1 : (q_ws σ V' G').length ≤ j := by simp [q_ws]; omega
      have h2 : (q_ws σ V G).length ≤ j := by simp [q_ws]; omega
      rw [List.getElem?_eq_none h1, List.getElem?_eq_none h2]
def q_A (σ : q_E) (sz : Nat) : Nat → Prop := fun q => (∃ k, k < 90 ∧ q = σ.2.1 k) ∨ sz ≤ q
def q_inj (σ : q_E) : Prop := ∀ i j, i < 90 → j < 90 → σ.2.1 i = σ.2.1 j → i = j
theorem q_D {σ : q_E} {V : q_V} {G : q_G} {sz : Nat} (h : q_inj σ) : va_D (q_A σ sz) (q_ws σ V G) := by
  refine ⟨fun i j x y hi hj hxy => ?_, fun k q hk => ?_⟩
  · obtain ⟨h1, rfl⟩ := q_ws_in hi
    obtain ⟨h2, rfl⟩ := q_ws_in hj
    exact h i j h1 h2 hxy
  · obtain ⟨h1, rfl⟩ := q_ws_in hk
    exact Or.inl ⟨k, h1, rfl⟩
theorem q_A_mono {σ : q_E} {a b q : Nat} (h : a ≤ b) (hq : q_A σ b q) : q_A σ a q := hq.elim Or.inl (fun z => Or.inr (Nat.le_trans h z))
def q_tys (σ : q_E) : List (ClassId × FieldType) := [(σ.2.2.1, .int), (σ.2.2.2.1, .long), (σ.2.2.2.2.1, .boolean), (σ.2.2.2.2.2.1, .object RX1), (σ.2.2.2.2.2.2, .array .int)]
def q_nw : List Cond := [.fieldLinkNest RX2 180 RX1 "columns" "I" RX2, .fieldLinkNest RX2 183 RX1 "rows" "I" RX2, .fieldLinkNest RX2 174 RX0 "best" "[I" RX2, .fieldLinkNest RX2 165 RX0 "bestLength" "I" RX2, .methodLinkNest RX2 161 yX0_findBest RX2, .methodLinkNest RX2 168 yX0_longestByOrders RX2, .methodLinkNest RX2 177 yX0_exchange RX2, .methodLinkNest RX2 92 yX1_cellsOf RX2, .methodLinkNest RX2 96 yX1_begin RX2, .methodLinkNest RX2 100 yX1_size RX2, .methodLinkNest RX2 104 yX1_hasCell RX2, .methodLinkNest RX2 113 yX1_colourAt RX2, .methodLinkNest RX2 117 yX1_paint RX2, .methodLinkNest RX2 126 yX1_copyFrom RX2, .methodLinkNest RX2 133 yX1_hasImage RX2, .methodLinkNest RX2 155 yX0_hasWish RX2, .methodLinkNest RX2 158 yX0_setWish RX2, .methodLinkNest RX2 195 yX1_placesOf RX2]
def q_nq (w : Cond) : Prop := (∃ a i b n d h, w = .fieldLinkNest a i b n d h) ∨ ∃ a i x h, w = .methodLinkNest a i x h
theorem q_nw_form : ∀ w ∈ q_nw, q_nq w := by
  intro w hw
  simp only [q_nw, List.mem_cons, List.not_mem_nil, or_false] at hw
  rcases hw with rfl | rfl | rfl | rfl | rfl | rfl | rfl | rfl | rfl | rfl | rfl | rfl | rfl | rfl | rfl | rfl | rfl | rfl <;> first | exact Or.inl ⟨_, _, _, _, _, _, rfl⟩ | exact Or.inr ⟨_, _, _, _, rfl⟩
theorem q_nq_same {w : Cond} (hw : q_nq w) {u U : State} (h : u.vm = U.vm) (hZ : va_Nw w u) : va_Nw w U := by
  rcases hw with ⟨_, _, _, _, _, _, rfl⟩ | ⟨_, _, _, _, rfl⟩ <;> exact va_Nw.same rfl h hZ
theorem q_nq_warm {w : Cond} (hw : q_nq w) {s U : State} (h : s.WarmedH U.vm) (hZ : va_Nw w s) : va_Nw w U := by
  rcases hw with ⟨_, _, _, _, _, _, rfl⟩ | ⟨_, _, _, _, rfl⟩
  · exact va_Nw.warmF h hZ
  · exact va_Nw.warmM h hZ
def q_st : List (Nat × String) := [(110, "no such cell"), (124, "no room for a pattern"), (143, "no room for a belt"), (145, "too few beads in the hand"), (152, "the same colour for itself"), (172, "no such place in the best chain"), (186, "the draft is too large for a sign"), (191, "no room for a sign"), (193, "no such sign"), (202, "no such rank"), (207, "no such person"), (209, "no such colour"), (211, "no such pattern"), (213, "no such belt"), (215, "out of its range"), (81, "too many beads in the hand"), (86, "too few beads")]
/-- what holds of the machine's tables and of the two statics, all the time -/
def q_K (σ : q_E) (U : State) : Prop := va_K σ.1 vwCl (q_tys σ) U ∧ q_inj σ ∧ (∀ w ∈ q_nw, va_Nw w U) ∧ (∀ z ∈ q_st, ∃ sa, vk_R RX2 z.1 z.2 sa U) ∧ vx_Zq Bundle.tN "UNASSIGNED_STACK" Bundle.steD (q_A σ U.heap.size) U U.heap ∧ vx_Zq Bundle.tN "SUPPRESSED_SENTINEL" Bundle.listD (q_A σ U.heap.size) U U.heap
theorem q_K_calling {σ : q_E} {U : State} {g : JFrame} {mk : MethodId} {a : Array Value} (h : q_K σ U) : q_K σ (U.calling g mk a) := by
  obtain ⟨h1, h2, h3, h4, h5, h6⟩ := h
  refine ⟨va_K.moved (u := U) (U := U.calling g mk a) (Vm.Alike.refl U.vm) h1, h2, fun w hw => q_nq_same (q_nw_form w hw) (u := U) rfl (h3 w hw), fun z hz => ?_, vx_Zq.moved (u := U) (U := U.calling g mk a) (Vm.Alike.refl U.vm) h5, vx_Zq.moved (u := U) (U := U.calling g mk a) (Vm.Alike.refl U.vm) h6⟩
  obtain ⟨sa, hs⟩ := h4 z hz
  exact ⟨sa, vk_R.same (u := U) rfl hs⟩
theorem q_K_run {σ : q_E} {s U : State} {H : Heap} {locs : List Loc} (h : q_K σ s) (hS : va_S (q_A σ s.heap.size) s.heap H locs) (hU : U.heap = H) (hW : s.WarmedH U.vm) : q_K σ U := by
  obtain ⟨h1, h2, h3, h4, h5, h6⟩ := h
  subst hU
  refine ⟨va_K.moved hW.alike h1, h2, fun w hw => q_nq_warm (q_nw_form w hw) hW (h3 w hw), fun z hz => ?_, ?_, ?_⟩
  · obtain ⟨sa, hs⟩ := h4 z hz
    exact ⟨sa, vk_R.warm hW hs⟩
  · exact ((vx_Zq.moved hW.alike h5).kept (fun a ha hn => hS.2.1 a ha hn)).narrow (fun q hq => q_A_mono hS.1 hq)
  · exact ((vx_Zq.moved hW.alike h6).kept (fun a ha hn => hS.2.1 a ha hn)).narrow (fun q hq => q_A_mono hS.1 hq)
/-- a method's context -/
def q_C (σ : q_E) (p : Program) (s : State) (m : MethodId) (args : Array Value) (c : Code) (cc : ByteArray) (nL : Nat) (own : String) (Ts : List Cond) : Prop :=
  p.tables.exec = Jvm.exec ∧ c.code = cc ∧ c.maxLocals = nL ∧ s.vm.findClass own = some m.cls ∧ (∀ w ∈ Ts, w.before args s = true) ∧ q_K σ s
/-- the machine at pc, with the memory V, G, the locals lv and the operands st, comes to Q -/
def q_W (σ : q_E) (p : Program) (l : Launch) (e : Env) (R : Room) (s : State) (m : MethodId) (args : Array Value) (below : List Frame) (meth : Method) (c : Code) (Q : State → Prop) (nL cells slots : Nat) (V : q_V) (G : q_G) (lv : List (Nat × Value)) (pc : Nat) (st : List Value) : Prop :=
  ∀ (H : Heap) (locs : List Loc) (ls : Array Slot), va_P σ.1 vwCl (q_ws σ V G) H → va_S (q_A σ s.heap.size) s.heap H locs → lv_has ls nL lv → W p l e R s m args below meth c H locs cells slots Q (F0 m pc ls st)
/-- .. with the cell q9, of the class E, thrown over it -/
def q_X (σ : q_E) (p : Program) (l : Launch) (e : Env) (R : Room) (s : State) (m : MethodId) (args : Array Value) (below : List Frame) (meth : Method) (c : Code) (Q : State → Prop) (nL cells slots : Nat) (E : String) (V : q_V) (G : q_G) (lv : List (Nat × Value)) (pc : Nat) (st : List Value) : Prop :=
  ∀ (H : Heap) (locs : List Loc) (ls : Array Slot) (ce : Cell) (q9 : Addr), va_P σ.1 vwCl (q_ws σ V G) H → va_S (q_A σ s.heap.size) s.heap H locs → lv_has ls nL lv → H[q9]? = some ce → ce.vm = .none → s.vm.findClass E = some ce.cls → vx_W p l e R s m args below meth c H locs cells slots Q (F0 m pc ls st) q9
def q_Pc (σ : q_E) (sz : Nat) (V : q_V) (G : q_G) : State → Prop := fun U => U.heap.size = sz ∧ va_P σ.1 vwCl (q_ws σ V G) U.heap ∧ q_K σ U
theorem q_blind {σ : q_E} {sz : Nat} {V : q_V} {G : q_G} {As : List Value} : FrameBlind (va_Pc As (q_Pc σ sz V G)) := fun a U g mk h => by
  obtain ⟨h0, h1, h2, h3⟩ := h
  exact ⟨h0, h1, h2, q_K_calling h3⟩
def q_B (σ : q_E) : q_V × q_G → State → Prop := fun u t => va_P σ.1 vwCl (q_ws σ u.1 u.2) t.heap
/-- contracts: a method that returns -/
def q_Mi (l : Launch) (y : MethodName) (ws : List Cond) (rm : Room) (σ : q_E) (As : List Value) (V : q_V) (G : q_G) (post : Int32 → q_V → q_G → Prop) (mc ms : Nat) : Prop := ∀ sz : Nat, Met l y ws rm (va_Pc As (q_Pc σ sz V G)) (va_Qi (fun r (u : q_V × q_G) => post r u.1 u.2) (q_B σ) (q_A σ sz)) mc ms (q_A σ sz)
def q_Ml (l : Launch) (y : MethodName) (ws : List Cond) (rm : Room) (σ : q_E) (As : List Value) (V : q_V) (G : q_G) (post : Int64 → q_V → q_G → Prop) (mc ms : Nat) : Prop := ∀ sz : Nat, Met l y ws rm (va_Pc As (q_Pc σ sz V G)) (va_Ql (fun r (u : q_V × q_G) => post r u.1 u.2) (q_B σ) (q_A σ sz)) mc ms (q_A σ sz)
def q_Mv (l : Launch) (y : MethodName) (ws : List Cond) (rm : Room) (σ : q_E) (As : List Value) (V : q_V) (G : q_G) (post : q_V → q_G → Prop) (mc ms : Nat) : Prop := ∀ sz : Nat, Met l y ws rm (va_Pc As (q_Pc σ sz V G)) (va_Qv (fun (u : q_V × q_G) => post u.1 u.2) (q_B σ) (q_A σ sz)) mc ms (q_A σ sz)
/-- .. that returns or throws -/
def q_BX (σ : q_E) (px : String → q_V → q_G → Prop) : String → q_V × q_G → State → Prop := fun E u t => px E u.1 u.2 ∧ va_P σ.1 vwCl (q_ws σ u.1 u.2) t.heap
def q_Xi (l : Launch) (y : MethodName) (ws : List Cond) (rm : Room) (σ : q_E) (As : List Value) (V : q_V) (G : q_G) (post : Int32 → q_V → q_G → Prop) (px : String → q_V → q_G → Prop) (mc ms : Nat) : Prop := ∀ sz : Nat, vx_Met l y ws rm (va_Pc As (q_Pc σ sz V G)) (va_Qi (fun r (u : q_V × q_G) => post r u.1 u.2) (q_B σ) (q_A σ sz)) (vx_X (fun _ => True) (q_BX σ px) (q_A σ sz)) mc ms (q_A σ sz)
def q_Xl (l : Launch) (y : MethodName) (ws : List Cond) (rm : Room) (σ : q_E) (As : List Value) (V : q_V) (G : q_G) (post : Int64 → q_V → q_G → Prop) (px : String → q_V → q_G → Prop) (mc ms : Nat) : Prop := ∀ sz : Nat, vx_Met l y ws rm (va_Pc As (q_Pc σ sz V G)) (va_Ql (fun r (u : q_V × q_G) => post r u.1 u.2) (q_B σ) (q_A σ sz)) (vx_X (fun _ => True) (q_BX σ px) (q_A σ sz)) mc ms (q_A σ sz)
def q_Xv (l : Launch) (y : MethodName) (ws : List Cond) (rm : Room) (σ : q_E) (As : List Value) (V : q_V) (G : q_G) (post : q_V → q_G → Prop) (px : String → q_V → q_G → Prop) (mc ms : Nat) : Prop := ∀ sz : Nat, vx_Met l y ws rm (va_Pc As (q_Pc σ sz V G)) (va_Qv (fun (u : q_V × q_G) => post u.1 u.2) (q_B σ) (q_A σ sz)) (vx_X (fun _ => True) (q_BX σ px) (q_A σ sz)) mc ms (q_A σ sz)
/-- ends -/
def q_Ri (σ : q_E) (p : Program) (l : Launch) (e : Env) (R : Room) (s : State) (m : MethodId) (args : Array Value) (below : List Frame) (meth : Method) (c : Code) (Q : State → Prop) (nL : Nat) (cc : ByteArray) (ty : FieldType) (post : Int32 → q_V → q_G → Prop) (mc ms : Nat) : Prop :=
  ∀ (cells slots : Nat) (V' : q_V) (G' : q_G) (lv : List (Nat × Value)) (pc : Nat) (r : Int32), post r V' G' → narrow ty (.int r) = .int r → cells ≤ mc → slots ≤ ms → decode cc pc = .ok (.ireturn, 1) → q_W σ p l e R s m args below meth c Q nL cells slots V' G' lv pc [.int r]
def q_Rl (σ : q_E) (p : Program) (l : Launch) (e : Env) (R : Room) (s : State) (m : MethodId) (args : Array Value) (below : List Frame) (meth : Method) (c : Code) (Q : State → Prop) (nL : Nat) (cc : ByteArray) (post : Int64 → q_V → q_G → Prop) (mc ms : Nat) : Prop :=
  ∀ (cells slots : Nat) (V' : q_V) (G' : q_G) (lv : List (Nat × Value)) (pc : Nat) (r : Int64), post r V' G' → cells ≤ mc → slots ≤ ms → decode cc pc = .ok (.lreturn, 1) → q_W σ p l e R s m args below meth c Q nL cells slots V' G' lv pc [.long r]
def q_Rv (σ : q_E) (p : Program) (l : Launch) (e : Env) (R : Room) (s : State) (m : MethodId) (args : Array Value) (below : List Frame) (meth : Method) (c : Code) (Q : State → Prop) (nL : Nat) (cc : ByteArray) (post : q_V → q_G → Prop) (mc ms : Nat) : Prop :=
  ∀ (cells slots : Nat) (V' : q_V) (G' : q_G) (lv : List (Nat × Value)) (pc : Nat), post V' G' → cells ≤ mc → slots ≤ ms → decode cc pc = .ok (.return_, 1) → q_W σ p l e R s m args below meth c Q nL cells slots V' G' lv pc []
/-- a throw that leaves the method -/
def q_O (σ : q_E) (p : Program) (l : Launch) (e : Env) (R : Room) (s : State) (m : MethodId) (args : Array Value) (below : List Frame) (meth : Method) (c : Code) (Q : State → Prop) (nL : Nat) (px : String → q_V → q_G → Prop) (mc ms : Nat) : Prop :=
  ∀ (cells slots : Nat) (E : String) (V' : q_V) (G' : q_G) (lv : List (Nat × Value)) (pc : Nat) (st : List Value), px E V' G' → cells ≤ mc → slots ≤ ms → q_X σ p l e R s m args below meth c Q nL cells slots E V' G' lv pc st
/-- what a body that may throw knows of its table and of its end -/
def q_T (σ : q_E) (s : State) (args : Array Value) (below : List Frame) (meth : Method) (c : Code) (Q : State → Prop) (px : String → q_V → q_G → Prop) (mc ms : Nat) : Prop := (∀ x ∈ c.exceptionTable.toList, False) ∧ meth.locks = false ∧ ∃ post : Array Value → State → Outcome → State → Prop, Q = vx_MQ below post (vx_X (fun _ => True) (q_BX σ px) (q_A σ s.heap.size)) args s mc ms (q_A σ s.heap.size)
theorem q_Mi_of {l : Launch} {y : MethodName} {ws ws' : List Cond} {rm : Room} {σ : q_E} {As : List Value} {V : q_V} {G : q_G} {mc ms : Nat} {cc : ByteArray} {maxL : Nat} {lv : List (Nat × Value)} {ty : FieldType} {post : Int32 → q_V → q_G → Prop} (hy : plainName y.cls = true) (hw : ws = Cond.code y cc maxL (some ty) :: ws') (hlen : (lg_sl As).length ≤ maxL) (hlv : lv_args 0 As = lv) (body : ∀ (p : Program) (e : Env) (s : State) (m : MethodId) (args : Array Value) (below : List Frame) (meth : Method) (c : Code) (Q : State → Prop), q_C σ p s m args c cc maxL y.cls ws → q_Ri σ p l e rm s m args below meth c Q maxL cc ty post mc ms → q_W σ p l e rm s m args below meth c Q maxL 0 0 V G lv 0 []) : q_Mi l y ws rm σ As V G post mc ms := by
  intro sz
  refine Met.ofW (cc := cc) (maxL := maxL) (ret := some ty) hy hw ?_
  intro p e s m args below meth c s₁ B hml hv
  obtain ⟨rfl, hsz, hP, hK⟩ := hv
  have hl := lv_entry As (n := maxL) hlen
  rw [lg_entry_eq]
  subst hsz
  rw [hlv] at hl
  refine body p e s m _ below meth c _ ⟨B.exec, B.bytes, hml, findClass_of_methodNamed B.named, atoms_spec (ws := ws) B.pre, hK⟩ ?_ s.heap [] _ hP va_S.rf hl
  intro cells slots V' G' lv' pc r hr hn hc hs hd H locs ls hP' hS' hl'
  refine W.widen (k := mc) (n := ms) hc hs ?_
  exact W.zret (v := r) B.exec B.bytes B.returns hn (fun t ht hW => ⟨⟨r, (V', G'), rfl, hr, by show va_P _ _ _ t.heap; rw [ht]; exact hP'⟩, hS'.F ht⟩) hS'.2.2 hd B.notSynchronized
theorem q_Ml_of {l : Launch} {y : MethodName} {ws ws' : List Cond} {rm : Room} {σ : q_E} {As : List Value} {V : q_V} {G : q_G} {mc ms : Nat} {cc : ByteArray} {maxL : Nat} {lv : List (Nat × Value)} {post : Int64 → q_V → q_G → Prop} (hy : plainName y.cls = true) (hw : ws = Cond.code y cc maxL (some .long) :: ws') (hlen : (lg_sl As).length ≤ maxL) (hlv : lv_args 0 As = lv) (body : ∀ (p : Program) (e : Env) (s : State) (m : MethodId) (args : Array Value) (below : List Frame) (meth : Method) (c : Code) (Q : State → Prop), q_C σ p s m args c cc maxL y.cls ws → q_Rl σ p l e rm s m args below meth c Q maxL cc post mc ms → q_W σ p l e rm s m args below meth c Q maxL 0 0 V G lv 0 []) : q_Ml l y ws rm σ As V G post mc ms := by
  intro sz
  refine Met.ofW (cc := cc) (maxL := maxL) (ret := some .long) hy hw ?_
  intro p e s m args below meth c s₁ B hml hv
  obtain ⟨rfl, hsz, hP, hK⟩ := hv
  have hl := lv_entry As (n := maxL) hlen
  rw [lg_entry_eq]
  subst hsz
  rw [hlv] at hl
  refine body p e s m _ below meth c _ ⟨B.exec, B.bytes, hml, findClass_of_methodNamed B.named, atoms_spec (ws := ws) B.pre, hK⟩ ?_ s.heap [] _ hP va_S.rf hl
  intro cells slots V' G' lv' pc r hr hc hs hd H locs ls hP' hS' hl'
  refine W.widen (k := mc) (n := ms) hc hs ?_
  exact W.lret (v := r) B.exec B.bytes B.returns (fun t ht hW => ⟨⟨r, (V', G'), rfl, hr, by show va_P _ _ _ t.heap; rw [ht]; exact hP'⟩, hS'.F ht⟩) hS'.2.2 hd B.notSynchronized
theorem q_Mv_of {l : Launch} {y : MethodName} {ws ws' : List Cond} {rm : Room} {σ : q_E} {As : List Value} {V : q_V} {G : q_G} {mc ms : Nat} {cc : ByteArray} {maxL : Nat} {lv : List (Nat × Value)} {post : q_V → q_G → Prop} (hy : plainName y.cls = true) (hw : ws = Cond.code y cc maxL none :: ws') (hlen : (lg_sl As).length ≤ maxL) (hlv : lv_args 0 As = lv) (body : ∀ (p : Program) (e : Env) (s : State) (m : MethodId) (args : Array Value) (below : List Frame) (meth : Method) (c : Code) (Q : State → Prop), q_C σ p s m args c cc maxL y.cls ws → q_Rv σ p l e rm s m args below meth c Q maxL cc post mc ms → q_W σ p l e rm s m args below meth c Q maxL 0 0 V G lv 0 []) : q_Mv l y ws rm σ As V G post mc ms := by
  intro sz
  refine Met.ofW (cc := cc) (maxL := maxL) (ret := none) hy hw ?_
  intro p e s m args below meth c s₁ B hml hv
  obtain ⟨rfl, hsz, hP, hK⟩ := hv
  have hl := lv_entry As (n := maxL) hlen
  rw [lg_entry_eq]
  subst hsz
  rw [hlv] at hl
  refine body p e s m _ below meth c _ ⟨B.exec, B.bytes, hml, findClass_of_methodNamed B.named, atoms_spec (ws := ws) B.pre, hK⟩ ?_ s.heap [] _ hP va_S.rf hl
  intro cells slots V' G' lv' pc hr hc hs hd H locs ls hP' hS' hl'
  refine W.widen (k := mc) (n := ms) hc hs ?_
  exact W.vret B.exec B.bytes B.returns (fun t ht hW => ⟨⟨(V', G'), rfl, hr, by show va_P _ _ _ t.heap; rw [ht]; exact hP'⟩, hS'.F ht⟩) hS'.2.2 hd B.notSynchronized
theorem q_Xi_of {l : Launch} {y : MethodName} {ws ws' : List Cond} {rm : Room} {σ : q_E} {As : List Value} {V : q_V} {G : q_G} {mc ms : Nat} {cc : ByteArray} {maxL : Nat} {lv : List (Nat × Value)} {ty : FieldType} {post : Int32 → q_V → q_G → Prop} {px : String → q_V → q_G → Prop} (hy : plainName y.cls = true) (hw : ws = Cond.code y cc maxL (some ty) :: ws') (hlen : (lg_sl As).length ≤ maxL) (hlv : lv_args 0 As = lv) (body : ∀ (p : Program) (e : Env) (s : State) (m : MethodId) (args : Array Value) (below : List Frame) (meth : Method) (c : Code) (Q : State → Prop), q_C σ p s m args c cc maxL y.cls ws → q_Ri σ p l e rm s m args below meth c Q maxL cc ty post mc ms → q_O σ p l e rm s m args below meth c Q maxL px mc ms → q_T σ s args below meth c Q px mc ms → q_W σ p l e rm s m args below meth c Q maxL 0 0 V G lv 0 []) : q_Xi l y ws rm σ As V G post px mc ms := by
  intro sz
  refine vx_ofW (cc := cc) (maxL := maxL) (ret := some ty) hy hw ?_
  intro p e s m args below meth c s₁ B hml htb hv
  obtain ⟨rfl, hsz, hP, hK⟩ := hv
  have hl := lv_entry As (n := maxL) hlen
  rw [lg_entry_eq]
  subst hsz
  rw [hlv] at hl
  refine body p e s m _ below meth c _ ⟨B.exec, B.bytes, hml, findClass_of_methodNamed B.named, atoms_spec (ws := ws) B.pre, hK⟩ ?_ ?_ ⟨htb, B.notSynchronized, _, rfl⟩ s.heap [] _ hP va_S.rf hl
  · intro cells slots V' G' lv' pc r hr hn hc hs hd H locs ls hP' hS' hl'
    refine vx_ret (W.widen (k := mc) (n := ms) hc hs ?_)
    exact W.zret (v := r) B.exec B.bytes B.returns hn (fun t ht hW => ⟨⟨r, (V', G'), rfl, hr, by show va_P _ _ _ t.heap; rw [ht]; exact hP'⟩, hS'.F ht⟩) hS'.2.2 hd B.notSynchronized
  · intro cells slots E V' G' lv' pc st hx hc hs H locs ls ce q9 hP' hS' hl' h1 h2 h3
    exact vx_out (fun x hx9 => (htb x hx9).elim) B.notSynchronized h1 h2 h3 (fun t ht hW => ⟨(V', G'), trivial, ⟨hx, by show va_P _ _ _ t.heap; rw [ht]; exact hP'⟩, hS'.F ht⟩) hS'.2.2 hc hs
theorem q_Xl_of {l : Launch} {y : MethodName} {ws ws' : List Cond} {rm : Room} {σ : q_E} {As : List Value} {V : q_V} {G : q_G} {mc ms : Nat} {cc : ByteArray} {maxL : Nat} {lv : List (Nat × Value)} {post : Int64 → q_V → q_G → Prop} {px : String → q_V → q_G → Prop} (hy : plainName y.cls = true) (hw : ws = Cond.code y cc maxL (some .long) :: ws') (hlen : (lg_sl As).length ≤ maxL) (hlv : lv_args 0 As = lv) (body : ∀ (p : Program) (e : Env) (s : State) (m : MethodId) (args : Array Value) (below : List Frame) (meth : Method) (c : Code) (Q : State → Prop), q_C σ p s m args c cc maxL y.cls ws → q_Rl σ p l e rm s m args below meth c Q maxL cc post mc ms → q_O σ p l e rm s m args below meth c Q maxL px mc ms → q_T σ s args below meth c Q px mc ms → q_W σ p l e rm s m args below meth c Q maxL 0 0 V G lv 0 []) : q_Xl l y ws rm σ As V G post px mc ms := by
  intro sz
  refine vx_ofW (cc := cc) (maxL := maxL) (ret := some .long) hy hw ?_
  intro p e s m args below meth c s₁ B hml htb hv
  obtain ⟨rfl, hsz, hP, hK⟩ := hv
  have hl := lv_entry As (n := maxL) hlen
  rw [lg_entry_eq]
  subst hsz
  rw [hlv] at hl
  refine body p e s m _ below meth c _ ⟨B.exec, B.bytes, hml, findClass_of_methodNamed B.named, atoms_spec (ws := ws) B.pre, hK⟩ ?_ ?_ ⟨htb, B.notSynchronized, _, rfl⟩ s.heap [] _ hP va_S.rf hl
  · intro cells slots V' G' lv' pc r hr hc hs hd H locs ls hP' hS' hl'
    refine vx_ret (W.widen (k := mc) (n := ms) hc hs ?_)
    exact W.lret (v := r) B.exec B.bytes B.returns (fun t ht hW => ⟨⟨r, (V', G'), rfl, hr, by show va_P _ _ _ t.heap; rw [ht]; exact hP'⟩, hS'.F ht⟩) hS'.2.2 hd B.notSynchronized
  · intro cells slots E V' G' lv' pc st hx hc hs H locs ls ce q9 hP' hS' hl' h1 h2 h3
    exact vx_out (fun x hx9 => (htb x hx9).elim) B.notSynchronized h1 h2 h3 (fun t ht hW => ⟨(V', G'), trivial, ⟨hx, by show va_P _ _ _ t.heap; rw [ht]; exact hP'⟩, hS'.F ht⟩) hS'.2.2 hc hs
theorem q_Xv_of {l : Launch} {y : MethodName} {ws ws' : List Cond} {rm : Room} {σ : q_E} {As : List Value} {V : q_V} {G : q_G} {mc ms : Nat} {cc : ByteArray} {maxL : Nat} {lv : List (Nat × Value)} {post : q_V → q_G → Prop} {px : String → q_V → q_G → Prop} (hy : plainName y.cls = true) (hw : ws = Cond.code y cc maxL none :: ws') (hlen : (lg_sl As).length ≤ maxL) (hlv : lv_args 0 As = lv) (body : ∀ (p : Program) (e : Env) (s : State) (m : MethodId) (args : Array Value) (below : List Frame) (meth : Method) (c : Code) (Q : State → Prop), q_C σ p s m args c cc maxL y.cls ws → q_Rv σ p l e rm s m args below meth c Q maxL cc post mc ms → q_O σ p l e rm s m args below meth c Q maxL px mc ms → q_T σ s args below meth c Q px mc ms → q_W σ p l e rm s m args below meth c Q maxL 0 0 V G lv 0 []) : q_Xv l y ws rm σ As V G post px mc ms := by
  intro sz
  refine vx_ofW (cc := cc) (maxL := maxL) (ret := none) hy hw ?_
  intro p e s m args below meth c s₁ B hml htb hv
  obtain ⟨rfl, hsz, hP, hK⟩ := hv
  have hl := lv_entry As (n := maxL) hlen
  rw [lg_entry_eq]
  subst hsz
  rw [hlv] at hl
  refine body p e s m _ below meth c _ ⟨B.exec, B.bytes, hml, findClass_of_methodNamed B.named, atoms_spec (ws := ws) B.pre, hK⟩ ?_ ?_ ⟨htb, B.notSynchronized, _, rfl⟩ s.heap [] _ hP va_S.rf hl
  · intro cells slots V' G' lv' pc hr hc hs hd H locs ls hP' hS' hl'
    refine vx_ret (W.widen (k := mc) (n := ms) hc hs ?_)
    exact W.vret B.exec B.bytes B.returns (fun t ht hW => ⟨⟨(V', G'), rfl, hr, by show va_P _ _ _ t.heap; rw [ht]; exact hP'⟩, hS'.F ht⟩) hS'.2.2 hd B.notSynchronized
  · intro cells slots E V' G' lv' pc st hx hc hs H locs ls ce q9 hP' hS' hl' h1 h2 h3
    exact vx_out (fun x hx9 => (htb x hx9).elim) B.notSynchronized h1 h2 h3 (fun t ht hW => ⟨(V', G'), trivial, ⟨hx, by show va_P _ _ _ t.heap; rw [ht]; exact hP'⟩, hS'.F ht⟩) hS'.2.2 hc hs
end
section
section QROWS
variable {σ : q_E} {p : Program} {l : Launch} {e : Env} {R : Room} {s : State} {m : MethodId} {args : Array Value} {below : List Frame} {meth : Method} {c : Code} {Q : State → Prop} {nL cells slots : Nat} {V : q_V} {G : q_G} {lv : List (Nat × Value)} {pc : Nat} {st : List Value} {cc : ByteArray} {own : String} {Ts : List Cond}
theorem q_iconst (C : q_C σ p s m args c cc nL own Ts) {n : Int} (v : Int32) (hd : decode cc pc = .ok (.iconst n, 1)) (hv : Int32.ofInt n = v) (kk : q_W σ p l e R s m args below meth c Q nL cells slots V G lv (pc + 1) (.int v :: st)) : q_W σ p l e R s m args below meth c Q nL cells slots V G lv pc st := fun H locs ls hP hS hl => lv_iconst C.1 C.2.1 hd hv (kk H locs ls hP hS hl)
theorem q_bipush (C : q_C σ p s m args c cc nL own Ts) {n : Int} (v : Int32) (hd : decode cc pc = .ok (.bipush n, 2)) (hv : (Int8.ofInt n).toInt32 = v) (kk : q_W σ p l e R s m args below meth c Q nL cells slots V G lv (pc + 2) (.int v :: st)) : q_W σ p l e R s m args below meth c Q nL cells slots V G lv pc st := fun H locs ls hP hS hl => lv_bipush C.1 C.2.1 hd hv (kk H locs ls hP hS hl)
theorem q_sipush (C : q_C σ p s m args c cc nL own Ts) {n : Int} (v : Int32) (hd : decode cc pc = .ok (.sipush n, 3)) (hv : (Int16.ofInt n).toInt32 = v) (kk : q_W σ p l e R s m args below meth c Q nL cells slots V G lv (pc + 3) (.int v :: st)) : q_W σ p l e R s m args below meth c Q nL cells slots V G lv pc st := fun H locs ls hP hS hl => lv_sipush C.1 C.2.1 hd hv (kk H locs ls hP hS hl)
theorem q_lconst (C : q_C σ p s m args c cc nL own Ts) {n : Fin 2} (v : Int64) (hd : decode cc pc = .ok (.lconst n, 1)) (hv : Int64.ofNat (n : Nat) = v) (kk : q_W σ p l e R s m args below meth c Q nL cells slots V G lv (pc + 1) (.long v :: st)) : q_W σ p l e R s m args below meth c Q nL cells slots V G lv pc st := fun H locs ls hP hS hl => lv_lconst C.1 C.2.1 hd hv (kk H locs ls hP hS hl)
theorem q_ldc (C : q_C σ p s m args c cc nL own Ts) {i : Nat} (v : Int32) (hd : decode cc pc = .ok (.ldc i, 2)) (hw : Cond.constant own i v ∈ Ts) (kk : q_W σ p l e R s m args below meth c Q nL cells slots V G lv (pc + 2) (.int v :: st)) : q_W σ p l e R s m args below meth c Q nL cells slots V G lv pc st := fun H locs ls hP hS hl => lv_ldc C.1 C.2.1 C.2.2.2.1 (C.2.2.2.2.1 _ hw) hd (kk H locs ls hP hS hl)
theorem q_iload_n (C : q_C σ p s m args c cc nL own Ts) {k : Fin 4} {i : Nat} {x : Int32} (hd : decode cc pc = .ok (.iload_n k, 1)) (hi : (k : Nat) = i) (j : Nat) (hj : lv[j]? = some (i, .int x)) (kk : q_W σ p l e R s m args below meth c Q nL cells slots V G lv (pc + 1) (.int x :: st)) : q_W σ p l e R s m args below meth c Q nL cells slots V G lv pc st := fun H locs ls hP hS hl => lv_iload_n C.1 C.2.1 hd hi (lv_at hl j hj) (kk H locs ls hP hS hl)
theorem q_iload (C : q_C σ p s m args c cc nL own Ts) {i : Nat} {x : Int32} (hd : decode cc pc = .ok (.iload i, 2)) (j : Nat) (hj : lv[j]? = some (i, .int x)) (kk : q_W σ p l e R s m args below meth c Q nL cells slots V G lv (pc + 2) (.int x :: st)) : q_W σ p l e R s m args below meth c Q nL cells slots V G lv pc st := fun H locs ls hP hS hl => lv_iload C.1 C.2.1 hd (lv_at hl j hj) (kk H locs ls hP hS hl)
theorem q_istore_n (C : q_C σ p s m args c cc nL own Ts) {k : Fin 4} {i : Nat} {x : Int32} (lv' : List (Nat × Value)) (hd : decode cc pc = .ok (.istore_n k, 1)) (hi : (k : Nat) = i) (hn : i < nL) (hv : (i, Value.int x) :: lv.filter (fun q => !(q.1 == i) && !(q.1 + 1 == i && q.2.category == 2)) = lv') (kk : q_W σ p l e R s m args below meth c Q nL cells slots V G lv' (pc + 1) st) : q_W σ p l e R s m args below meth c Q nL cells slots V G lv pc (.int x :: st) := fun H locs ls hP hS hl => lv_istore_n C.1 C.2.1 hd hi hl hn hv (fun ls hl => kk H locs ls hP hS hl)
theorem q_istore (C : q_C σ p s m args c cc nL own Ts) {i : Nat} {x : Int32} (lv' : List (Nat × Value)) (hd : decode cc pc = .ok (.istore i, 2)) (hn : i < nL) (hv : (i, Value.int x) :: lv.filter (fun q => !(q.1 == i) && !(q.1 + 1 == i && q.2.category == 2)) = lv') (kk : q_W σ p l e R s m args below meth c Q nL cells slots V G lv' (pc + 2) st) : q_W σ p l e R s m args below meth c Q nL cells slots V G lv pc (.int x :: st) := fun H locs ls hP hS hl => lv_istore C.1 C.2.1 hd hl hn hv (fun ls hl => kk H locs ls hP hS hl)
theorem q_lload_n (C : q_C σ p s m args c cc nL own Ts) {k : Fin 4} {i : Nat} {x : Int64} (hd : decode cc pc = .ok (.lload_n k, 1)) (hi : (k : Nat) = i) (j : Nat) (hj : lv[j]? = some (i, .long x)) (kk : q_W σ p l e R s m args below meth c Q nL cells slots V G lv (pc + 1) (.long x :: st)) : q_W σ p l e R s m args below meth c Q nL cells slots V G lv pc st := fun H locs ls hP hS hl => lv_lload_n C.1 C.2.1 hd hi (lv_at hl j hj) (kk H locs ls hP hS hl)
theorem q_lload (C : q_C σ p s m args c cc nL own Ts) {i : Nat} {x : Int64} (hd : decode cc pc = .ok (.lload i, 2)) (j : Nat) (hj : lv[j]? = some (i, .long x)) (kk : q_W σ p l e R s m args below meth c Q nL cells slots V G lv (pc + 2) (.long x :: st)) : q_W σ p l e R s m args below meth c Q nL cells slots V G lv pc st := fun H locs ls hP hS hl => lv_lload C.1 C.2.1 hd (lv_at hl j hj) (kk H locs ls hP hS hl)
theorem q_lstore_n (C : q_C σ p s m args c cc nL own Ts) {k : Fin 4} {i : Nat} {x : Int64} (lv' : List (Nat × Value)) (hd : decode cc pc = .ok (.lstore_n k, 1)) (hi : (k : Nat) = i) (hn : i + 1 < nL) (hv : (i, Value.long x) :: lv.filter (fun q => !(q.1 == i) && (!(q.1 == i + 1) && !(q.1 + 1 == i && q.2.category == 2))) = lv') (kk : q_W σ p l e R s m args below meth c Q nL cells slots V G lv' (pc + 1) st) : q_W σ p l e R s m args below meth c Q nL cells slots V G lv pc (.long x :: st) := fun H locs ls hP hS hl => lv_lstore_n C.1 C.2.1 hd hi hl hn hv (fun ls hl => kk H locs ls hP hS hl)
theorem q_lstore (C : q_C σ p s m args c cc nL own Ts) {i : Nat} {x : Int64} (lv' : List (Nat × Value)) (hd : decode cc pc = .ok (.lstore i, 2)) (hn : i + 1 < nL) (hv : (i, Value.long x) :: lv.filter (fun q => !(q.1 == i) && (!(q.1 == i + 1) && !(q.1 + 1 == i && q.2.category == 2))) = lv') (kk : q_W σ p l e R s m args below meth c Q nL cells slots V G lv' (pc + 2) st) : q_W σ p l e R s m args below meth c Q nL cells slots V G lv pc (.long x :: st) := fun H locs ls hP hS hl => lv_lstore C.1 C.2.1 hd hl hn hv (fun ls hl => kk H locs ls hP hS hl)
theorem q_aload_n (C : q_C σ p s m args c cc nL own Ts) {k : Fin 4} {i : Nat} {x : Nat} (hd : decode cc pc = .ok (.aload_n k, 1)) (hi : (k : Nat) = i) (j : Nat) (hj : lv[j]? = some (i, .ref x)) (kk : q_W σ p l e R s m args below meth c Q nL cells slots V G lv (pc + 1) (.ref x :: st)) : q_W σ p l e R s m args below meth c Q nL cells slots V G lv pc st := fun H locs ls hP hS hl => lv_aload_n C.1 C.2.1 hd hi (lv_at hl j hj) (kk H locs ls hP hS hl)
theorem q_aload (C : q_C σ p s m args c cc nL own Ts) {i : Nat} {x : Nat} (hd : decode cc pc = .ok (.aload i, 2)) (j : Nat) (hj : lv[j]? = some (i, .ref x)) (kk : q_W σ p l e R s m args below meth c Q nL cells slots V G lv (pc + 2) (.ref x :: st)) : q_W σ p l e R s m args below meth c Q nL cells slots V G lv pc st := fun H locs ls hP hS hl => lv_aload C.1 C.2.1 hd (lv_at hl j hj) (kk H locs ls hP hS hl)
theorem q_astore_n (C : q_C σ p s m args c cc nL own Ts) {k : Fin 4} {i : Nat} {x : Nat} (lv' : List (Nat × Value)) (hd : decode cc pc = .ok (.astore_n k, 1)) (hi : (k : Nat) = i) (hn : i < nL) (hv : (i, Value.ref x) :: lv.filter (fun q => !(q.1 == i) && !(q.1 + 1 == i && q.2.category == 2)) = lv') (kk : q_W σ p l e R s m args below meth c Q nL cells slots V G lv' (pc + 1) st) : q_W σ p l e R s m args below meth c Q nL cells slots V G lv pc (.ref x :: st) := fun H locs ls hP hS hl => lv_astore_n C.1 C.2.1 hd hi hl hn hv (fun ls hl => kk H locs ls hP hS hl)
theorem q_astore (C : q_C σ p s m args c cc nL own Ts) {i : Nat} {x : Nat} (lv' : List (Nat × Value)) (hd : decode cc pc = .ok (.astore i, 2)) (hn : i < nL) (hv : (i, Value.ref x) :: lv.filter (fun q => !(q.1 == i) && !(q.1 + 1 == i && q.2.category == 2)) = lv') (kk : q_W σ p l e R s m args below meth c Q nL cells slots V G lv' (pc + 2) st) : q_W σ p l e R s m args below meth c Q nL cells slots V G lv pc (.ref x :: st) := fun H locs ls hP hS hl => lv_astore C.1 C.2.1 hd hl hn hv (fun ls hl => kk H locs ls hP hS hl)
theorem q_iinc (C : q_C σ p s m args c cc nL own Ts) {i : Nat} {n : Int} {x : Int32} (v : Int32) (lv' : List (Nat × Value)) (hd : decode cc pc = .ok (.iinc i n, 3)) (j : Nat) (hj : lv[j]? = some (i, .int x)) (hx : x + Int32.ofInt n = v) (hn : i < nL) (hv : (i, Value.int v) :: lv.filter (fun q => !(q.1 == i) && !(q.1 + 1 == i && q.2.category == 2)) = lv') (kk : q_W σ p l e R s m args below meth c Q nL cells slots V G lv' (pc + 3) st) : q_W σ p l e R s m args below meth c Q nL cells slots V G lv pc st := fun H locs ls hP hS hl => lv_iinc C.1 C.2.1 hd hl hj hx hn hv (fun ls hl => kk H locs ls hP hS hl)
theorem q_iadd (C : q_C σ p s m args c cc nL own Ts) {x y : Int32} (hd : decode cc pc = .ok (.iadd, 1)) (kk : q_W σ p l e R s m args below meth c Q nL cells slots V G lv (pc + 1) (.int (x + y) :: st)) : q_W σ p l e R s m args below meth c Q nL cells slots V G lv pc (.int y :: .int x :: st) := fun H locs ls hP hS hl => lv_iadd C.1 C.2.1 hd (kk H locs ls hP hS hl)
theorem q_isub (C : q_C σ p s m args c cc nL own Ts) {x y : Int32} (hd : decode cc pc = .ok (.isub, 1)) (kk : q_W σ p l e R s m args below meth c Q nL cells slots V G lv (pc + 1) (.int (x - y) :: st)) : q_W σ p l e R s m args below meth c Q nL cells slots V G lv pc (.int y :: .int x :: st) := fun H locs ls hP hS hl => lv_isub C.1 C.2.1 hd (kk H locs ls hP hS hl)
theorem q_imul (C : q_C σ p s m args c cc nL own Ts) {x y : Int32} (hd : decode cc pc = .ok (.imul, 1)) (kk : q_W σ p l e R s m args below meth c Q nL cells slots V G lv (pc + 1) (.int (x * y) :: st)) : q_W σ p l e R s m args below meth c Q nL cells slots V G lv pc (.int y :: .int x :: st) := fun H locs ls hP hS hl => lv_imul C.1 C.2.1 hd (kk H locs ls hP hS hl)
theorem q_iand (C : q_C σ p s m args c cc nL own Ts) {x y : Int32} (hd : decode cc pc = .ok (.iand, 1)) (kk : q_W σ p l e R s m args below meth c Q nL cells slots V G lv (pc + 1) (.int (x &&& y) :: st)) : q_W σ p l e R s m args below meth c Q nL cells slots V G lv pc (.int y :: .int x :: st) := fun H locs ls hP hS hl => lv_iand C.1 C.2.1 hd (kk H locs ls hP hS hl)
theorem q_ladd (C : q_C σ p s m args c cc nL own Ts) {x y : Int64} (hd : decode cc pc = .ok (.ladd, 1)) (kk : q_W σ p l e R s m args below meth c Q nL cells slots V G lv (pc + 1) (.long (x + y) :: st)) : q_W σ p l e R s m args below meth c Q nL cells slots V G lv pc (.long y :: .long x :: st) := fun H locs ls hP hS hl => lv_ladd C.1 C.2.1 hd (kk H locs ls hP hS hl)
theorem q_iaddN (C : q_C σ p s m args c cc nL own Ts) {a b : Nat} (hd : decode cc pc = .ok (.iadd, 1)) (kk : q_W σ p l e R s m args below meth c Q nL cells slots V G lv (pc + 1) (.int (nI (a + b)) :: st)) : q_W σ p l e R s m args below meth c Q nL cells slots V G lv pc (.int (nI b) :: .int (nI a) :: st) := by
  refine q_iadd C hd ?_
  rw [nI_add]
  exact kk
theorem q_isubN (C : q_C σ p s m args c cc nL own Ts) {a b : Nat} (hd : decode cc pc = .ok (.isub, 1)) (h : b ≤ a) (kk : q_W σ p l e R s m args below meth c Q nL cells slots V G lv (pc + 1) (.int (nI (a - b)) :: st)) : q_W σ p l e R s m args below meth c Q nL cells slots V G lv pc (.int (nI b) :: .int (nI a) :: st) := by
  refine q_isub C hd ?_
  rw [pk_sub h]
  exact kk
theorem q_imulN (C : q_C σ p s m args c cc nL own Ts) {a b : Nat} (hd : decode cc pc = .ok (.imul, 1)) (kk : q_W σ p l e R s m args below meth c Q nL cells slots V G lv (pc + 1) (.int (nI (a * b)) :: st)) : q_W σ p l e R s m args below meth c Q nL cells slots V G lv pc (.int (nI b) :: .int (nI a) :: st) := by
  refine q_imul C hd ?_
  rw [pk_mul]
  exact kk
theorem q_nI_ne {d : Nat} (h0 : 0 < d) (hd : d < 2 ^ 31) : ¬ nI d = 0 := nI_ne0 h0 hd
theorem q_idivN (C : q_C σ p s m args c cc nL own Ts) {a b : Nat} (hd : decode cc pc = .ok (.idiv, 1)) (ha : a < 2 ^ 31) (h0 : 0 < b) (hb : b < 2 ^ 31) (kk : q_W σ p l e R s m args below meth c Q nL cells slots V G lv (pc + 1) (.int (nI (a / b)) :: st)) : q_W σ p l e R s m args below meth c Q nL cells slots V G lv pc (.int (nI b) :: .int (nI a) :: st) := fun H locs ls hP hS hl => by
  refine lv_idiv C.1 C.2.1 hd (nI_ne0 h0 hb) ?_
  rw [pk_div ha h0 hb]
  exact kk H locs ls hP hS hl
theorem q_iremN (C : q_C σ p s m args c cc nL own Ts) {a b : Nat} (hd : decode cc pc = .ok (.irem, 1)) (ha : a < 2 ^ 31) (h0 : 0 < b) (hb : b < 2 ^ 31) (kk : q_W σ p l e R s m args below meth c Q nL cells slots V G lv (pc + 1) (.int (nI (a % b)) :: st)) : q_W σ p l e R s m args below meth c Q nL cells slots V G lv pc (.int (nI b) :: .int (nI a) :: st) := fun H locs ls hP hS hl => by
  refine lv_irem C.1 C.2.1 hd (nI_ne0 h0 hb) ?_
  rw [pk_rem ha h0 hb]
  exact kk H locs ls hP hS hl
theorem q_iincN (C : q_C σ p s m args c cc nL own Ts) {i : Nat} {a : Nat} (lv' : List (Nat × Value)) (hd : decode cc pc = .ok (.iinc i 1, 3)) (j : Nat) (hj : lv[j]? = some (i, .int (nI a))) (hn : i < nL) (hv : (i, Value.int (nI (a + 1))) :: lv.filter (fun q => !(q.1 == i) && !(q.1 + 1 == i && q.2.category == 2)) = lv') (kk : q_W σ p l e R s m args below meth c Q nL cells slots V G lv' (pc + 3) st) : q_W σ p l e R s m args below meth c Q nL cells slots V G lv pc st := q_iinc C (nI (a + 1)) lv' hd j hj (nI_1 a) hn hv kk
theorem q_i2l (C : q_C σ p s m args c cc nL own Ts) {x : Int32} (hd : decode cc pc = .ok (.i2l, 1)) (kk : q_W σ p l e R s m args below meth c Q nL cells slots V G lv (pc + 1) (.long x.toInt64 :: st)) : q_W σ p l e R s m args below meth c Q nL cells slots V G lv pc (.int x :: st) := fun H locs ls hP hS hl => lv_i2l C.1 C.2.1 hd rfl (kk H locs ls hP hS hl)
theorem q_lcmp (C : q_C σ p s m args c cc nL own Ts) {x y : Int64} (hd : decode cc pc = .ok (.lcmp, 1)) (kk : q_W σ p l e R s m args below meth c Q nL cells slots V G lv (pc + 1) (.int (lg_cmp x y) :: st)) : q_W σ p l e R s m args below meth c Q nL cells slots V G lv pc (.long y :: .long x :: st) := fun H locs ls hP hS hl => W.lcmp C.1 C.2.1 hd (kk H locs ls hP hS hl)
theorem q_dup (C : q_C σ p s m args c cc nL own Ts) {va : Value} (hd : decode cc pc = .ok (.dup, 1)) (hva : va.category = 1) (kk : q_W σ p l e R s m args below meth c Q nL cells slots V G lv (pc + 1) (va :: va :: st)) : q_W σ p l e R s m args below meth c Q nL cells slots V G lv pc (va :: st) := fun H locs ls hP hS hl => lv_dup C.1 C.2.1 hd hva (kk H locs ls hP hS hl)
theorem q_pop (C : q_C σ p s m args c cc nL own Ts) {va : Value} (hd : decode cc pc = .ok (.pop, 1)) (hva : va.category = 1) (kk : q_W σ p l e R s m args below meth c Q nL cells slots V G lv (pc + 1) st) : q_W σ p l e R s m args below meth c Q nL cells slots V G lv pc (va :: st) := fun H locs ls hP hS hl => lv_pop C.1 C.2.1 hd hva (kk H locs ls hP hS hl)
theorem q_dup_x1 (C : q_C σ p s m args c cc nL own Ts) {va vb : Value} (hd : decode cc pc = .ok (.dup_x1, 1)) (hva : va.category = 1) (hvb : vb.category = 1) (kk : q_W σ p l e R s m args below meth c Q nL cells slots V G lv (pc + 1) (va :: vb :: va :: st)) : q_W σ p l e R s m args below meth c Q nL cells slots V G lv pc (va :: vb :: st) := fun H locs ls hP hS hl => lv_dup_x1 C.1 C.2.1 hd hva hvb (kk H locs ls hP hS hl)
theorem q_dup2 (C : q_C σ p s m args c cc nL own Ts) {va vb : Value} (hd : decode cc pc = .ok (.dup2, 1)) (hva : va.category = 1) (hvb : vb.category = 1) (kk : q_W σ p l e R s m args below meth c Q nL cells slots V G lv (pc + 1) (va :: vb :: va :: vb :: st)) : q_W σ p l e R s m args below meth c Q nL cells slots V G lv pc (va :: vb :: st) := fun H locs ls hP hS hl => lv_dup2_11 C.1 C.2.1 hd hva hvb (kk H locs ls hP hS hl)
theorem q_goto (C : q_C σ p s m args c cc nL own Ts) {off : Int} (tgt : Nat) (hd : decode cc pc = .ok (.goto off, 3)) (ht : (pc : Int) + off = (tgt : Int)) (kk : q_W σ p l e R s m args below meth c Q nL cells slots V G lv tgt st) : q_W σ p l e R s m args below meth c Q nL cells slots V G lv pc st := fun H locs ls hP hS hl => lv_goto C.1 C.2.1 hd ht (kk H locs ls hP hS hl)
theorem q_icmp_eq (C : q_C σ p s m args c cc nL own Ts) {x y : Int32} {off : Int} (tgt : Nat) (hd : decode cc pc = .ok (.if_icmp .eq off, 3)) (ht : (pc : Int) + off = (tgt : Int)) (kt : x = y → q_W σ p l e R s m args below meth c Q nL cells slots V G lv tgt st) (kf : ¬ x = y → q_W σ p l e R s m args below meth c Q nL cells slots V G lv (pc + 3) st) : q_W σ p l e R s m args below meth c Q nL cells slots V G lv pc (.int y :: .int x :: st) := fun H locs ls hP hS hl => lv_icmp_eq C.1 C.2.1 hd ht (fun h => kt h H locs ls hP hS hl) (fun h => kf h H locs ls hP hS hl)
theorem q_if_eq (C : q_C σ p s m args c cc nL own Ts) {x : Int32} {off : Int} (tgt : Nat) (hd : decode cc pc = .ok (.ifCond .eq off, 3)) (ht : (pc : Int) + off = (tgt : Int)) (kt : x = 0 → q_W σ p l e R s m args below meth c Q nL cells slots V G lv tgt st) (kf : ¬ x = 0 → q_W σ p l e R s m args below meth c Q nL cells slots V G lv (pc + 3) st) : q_W σ p l e R s m args below meth c Q nL cells slots V G lv pc (.int x :: st) := fun H locs ls hP hS hl => lv_if_eq C.1 C.2.1 hd ht (fun h => kt h H locs ls hP hS hl) (fun h => kf h H locs ls hP hS hl)
theorem q_icmp_ne (C : q_C σ p s m args c cc nL own Ts) {x y : Int32} {off : Int} (tgt : Nat) (hd : decode cc pc = .ok (.if_icmp .ne off, 3)) (ht : (pc : Int) + off = (tgt : Int)) (kt : ¬ x = y → q_W σ p l e R s m args below meth c Q nL cells slots V G lv tgt st) (kf : x = y → q_W σ p l e R s m args below meth c Q nL cells slots V G lv (pc + 3) st) : q_W σ p l e R s m args below meth c Q nL cells slots V G lv pc (.int y :: .int x :: st) := fun H locs ls hP hS hl => lv_icmp_ne C.1 C.2.1 hd ht (fun h => kt h H locs ls hP hS hl) (fun h => kf h H locs ls hP hS hl)
theorem q_if_ne (C : q_C σ p s m args c cc nL own Ts) {x : Int32} {off : Int} (tgt : Nat) (hd : decode cc pc = .ok (.ifCond .ne off, 3)) (ht : (pc : Int) + off = (tgt : Int)) (kt : ¬ x = 0 → q_W σ p l e R s m args below meth c Q nL cells slots V G lv tgt st) (kf : x = 0 → q_W σ p l e R s m args below meth c Q nL cells slots V G lv (pc + 3) st) : q_W σ p l e R s m args below meth c Q nL cells slots V G lv pc (.int x :: st) := fun H locs ls hP hS hl => lv_if_ne C.1 C.2.1 hd ht (fun h => kt h H locs ls hP hS hl) (fun h => kf h H locs ls hP hS hl)
theorem q_icmp_lt (C : q_C σ p s m args c cc nL own Ts) {x y : Int32} {off : Int} (tgt : Nat) (hd : decode cc pc = .ok (.if_icmp .lt off, 3)) (ht : (pc : Int) + off = (tgt : Int)) (kt : x < y → q_W σ p l e R s m args below meth c Q nL cells slots V G lv tgt st) (kf : ¬ x < y → q_W σ p l e R s m args below meth c Q nL cells slots V G lv (pc + 3) st) : q_W σ p l e R s m args below meth c Q nL cells slots V G lv pc (.int y :: .int x :: st) := fun H locs ls hP hS hl => lv_icmp_lt C.1 C.2.1 hd ht (fun h => kt h H locs ls hP hS hl) (fun h => kf h H locs ls hP hS hl)
theorem q_if_lt (C : q_C σ p s m args c cc nL own Ts) {x : Int32} {off : Int} (tgt : Nat) (hd : decode cc pc = .ok (.ifCond .lt off, 3)) (ht : (pc : Int) + off = (tgt : Int)) (kt : x < 0 → q_W σ p l e R s m args below meth c Q nL cells slots V G lv tgt st) (kf : ¬ x < 0 → q_W σ p l e R s m args below meth c Q nL cells slots V G lv (pc + 3) st) : q_W σ p l e R s m args below meth c Q nL cells slots V G lv pc (.int x :: st) := fun H locs ls hP hS hl => lv_if_lt C.1 C.2.1 hd ht (fun h => kt h H locs ls hP hS hl) (fun h => kf h H locs ls hP hS hl)
theorem q_icmp_ge (C : q_C σ p s m args c cc nL own Ts) {x y : Int32} {off : Int} (tgt : Nat) (hd : decode cc pc = .ok (.if_icmp .ge off, 3)) (ht : (pc : Int) + off = (tgt : Int)) (kt : y ≤ x → q_W σ p l e R s m args below meth c Q nL cells slots V G lv tgt st) (kf : ¬ y ≤ x → q_W σ p l e R s m args below meth c Q nL cells slots V G lv (pc + 3) st) : q_W σ p l e R s m args below meth c Q nL cells slots V G lv pc (.int y :: .int x :: st) := fun H locs ls hP hS hl => lv_icmp_ge C.1 C.2.1 hd ht (fun h => kt h H locs ls hP hS hl) (fun h => kf h H locs ls hP hS hl)
theorem q_if_ge (C : q_C σ p s m args c cc nL own Ts) {x : Int32} {off : Int} (tgt : Nat) (hd : decode cc pc = .ok (.ifCond .ge off, 3)) (ht : (pc : Int) + off = (tgt : Int)) (kt : 0 ≤ x → q_W σ p l e R s m args below meth c Q nL cells slots V G lv tgt st) (kf : ¬ 0 ≤ x → q_W σ p l e R s m args below meth c Q nL cells slots V G lv (pc + 3) st) : q_W σ p l e R s m args below meth c Q nL cells slots V G lv pc (.int x :: st) := fun H locs ls hP hS hl => lv_if_ge C.1 C.2.1 hd ht (fun h => kt h H locs ls hP hS hl) (fun h => kf h H locs ls hP hS hl)
theorem q_icmp_gt (C : q_C σ p s m args c cc nL own Ts) {x y : Int32} {off : Int} (tgt : Nat) (hd : decode cc pc = .ok (.if_icmp .gt off, 3)) (ht : (pc : Int) + off = (tgt : Int)) (kt : y < x → q_W σ p l e R s m args below meth c Q nL cells slots V G lv tgt st) (kf : ¬ y < x → q_W σ p l e R s m args below meth c Q nL cells slots V G lv (pc + 3) st) : q_W σ p l e R s m args below meth c Q nL cells slots V G lv pc (.int y :: .int x :: st) := fun H locs ls hP hS hl => lv_icmp_gt C.1 C.2.1 hd ht (fun h => kt h H locs ls hP hS hl) (fun h => kf h H locs ls hP hS hl)
theorem q_if_gt (C : q_C σ p s m args c cc nL own Ts) {x : Int32} {off : Int} (tgt : Nat) (hd : decode cc pc = .ok (.ifCond .gt off, 3)) (ht : (pc : Int) + off = (tgt : Int)) (kt : 0 < x → q_W σ p l e R s m args below meth c Q nL cells slots V G lv tgt st) (kf : ¬ 0 < x → q_W σ p l e R s m args below meth c Q nL cells slots V G lv (pc + 3) st) : q_W σ p l e R s m args below meth c Q nL cells slots V G lv pc (.int x :: st) := fun H locs ls hP hS hl => lv_if_gt C.1 C.2.1 hd ht (fun h => kt h H locs ls hP hS hl) (fun h => kf h H locs ls hP hS hl)
theorem q_icmp_le (C : q_C σ p s m args c cc nL own Ts) {x y : Int32} {off : Int} (tgt : Nat) (hd : decode cc pc = .ok (.if_icmp .le off, 3)) (ht : (pc : Int) + off = (tgt : Int)) (kt : x ≤ y → q_W σ p l e R s m args below meth c Q nL cells slots V G lv tgt st) (kf : ¬ x ≤ y → q_W σ p l e R s m args below meth c Q nL cells slots V G lv (pc + 3) st) : q_W σ p l e R s m args below meth c Q nL cells slots V G lv pc (.int y :: .int x :: st) := fun H locs ls hP hS hl => lv_icmp_le C.1 C.2.1 hd ht (fun h => kt h H locs ls hP hS hl) (fun h => kf h H locs ls hP hS hl)
theorem q_if_le (C : q_C σ p s m args c cc nL own Ts) {x : Int32} {off : Int} (tgt : Nat) (hd : decode cc pc = .ok (.ifCond .le off, 3)) (ht : (pc : Int) + off = (tgt : Int)) (kt : x ≤ 0 → q_W σ p l e R s m args below meth c Q nL cells slots V G lv tgt st) (kf : ¬ x ≤ 0 → q_W σ p l e R s m args below meth c Q nL cells slots V G lv (pc + 3) st) : q_W σ p l e R s m args below meth c Q nL cells slots V G lv pc (.int x :: st) := fun H locs ls hP hS hl => lv_if_le C.1 C.2.1 hd ht (fun h => kt h H locs ls hP hS hl) (fun h => kf h H locs ls hP hS hl)
theorem q_icmp_eqN (C : q_C σ p s m args c cc nL own Ts) {a b : Nat} {off : Int} (tgt : Nat) (hd : decode cc pc = .ok (.if_icmp .eq off, 3)) (ht : (pc : Int) + off = (tgt : Int)) (ha : a < 2 ^ 31) (hb : b < 2 ^ 31) (kt : a = b → q_W σ p l e R s m args below meth c Q nL cells slots V G lv tgt st) (kf : a ≠ b → q_W σ p l e R s m args below meth c Q nL cells slots V G lv (pc + 3) st) : q_W σ p l e R s m args below meth c Q nL cells slots V G lv pc (.int (nI b) :: .int (nI a) :: st) := q_icmp_eq C tgt hd ht (fun h => kt ((nI_eq ha hb).mp h)) (fun h => kf (fun z => h ((nI_eq ha hb).mpr z)))
theorem q_icmp_neN (C : q_C σ p s m args c cc nL own Ts) {a b : Nat} {off : Int} (tgt : Nat) (hd : decode cc pc = .ok (.if_icmp .ne off, 3)) (ht : (pc : Int) + off = (tgt : Int)) (ha : a < 2 ^ 31) (hb : b < 2 ^ 31) (kt : a ≠ b → q_W σ p l e R s m args below meth c Q nL cells slots V G lv tgt st) (kf : a = b → q_W σ p l e R s m args below meth c Q nL cells slots V G lv (pc + 3) st) : q_W σ p l e R s m args below meth c Q nL cells slots V G lv pc (.int (nI b) :: .int (nI a) :: st) := q_icmp_ne C tgt hd ht (fun h => kt (fun z => h ((nI_eq ha hb).mpr z))) (fun h => kf ((nI_eq ha hb).mp h))
theorem q_icmp_ltN (C : q_C σ p s m args c cc nL own Ts) {a b : Nat} {off : Int} (tgt : Nat) (hd : decode cc pc = .ok (.if_icmp .lt off, 3)) (ht : (pc : Int) + off = (tgt : Int)) (ha : a < 2 ^ 31) (hb : b < 2 ^ 31) (kt : a < b → q_W σ p l e R s m args below meth c Q nL cells slots V G lv tgt st) (kf : b ≤ a → q_W σ p l e R s m args below meth c Q nL cells slots V G lv (pc + 3) st) : q_W σ p l e R s m args below meth c Q nL cells slots V G lv pc (.int (nI b) :: .int (nI a) :: st) := q_icmp_lt C tgt hd ht (fun h => kt ((nI_ltI ha hb).mp h)) (fun h => kf (Nat.not_lt.mp fun z => h ((nI_ltI ha hb).mpr z)))
theorem q_icmp_geN (C : q_C σ p s m args c cc nL own Ts) {a b : Nat} {off : Int} (tgt : Nat) (hd : decode cc pc = .ok (.if_icmp .ge off, 3)) (ht : (pc : Int) + off = (tgt : Int)) (ha : a < 2 ^ 31) (hb : b < 2 ^ 31) (kt : b ≤ a → q_W σ p l e R s m args below meth c Q nL cells slots V G lv tgt st) (kf : a < b → q_W σ p l e R s m args below meth c Q nL cells slots V G lv (pc + 3) st) : q_W σ p l e R s m args below meth c Q nL cells slots V G lv pc (.int (nI b) :: .int (nI a) :: st) := q_icmp_ge C tgt hd ht (fun h => kt ((nI_leI hb ha).mp h)) (fun h => kf (Nat.not_le.mp fun z => h ((nI_leI hb ha).mpr z)))
theorem q_icmp_gtN (C : q_C σ p s m args c cc nL own Ts) {a b : Nat} {off : Int} (tgt : Nat) (hd : decode cc pc = .ok (.if_icmp .gt off, 3)) (ht : (pc : Int) + off = (tgt : Int)) (ha : a < 2 ^ 31) (hb : b < 2 ^ 31) (kt : b < a → q_W σ p l e R s m args below meth c Q nL cells slots V G lv tgt st) (kf : a ≤ b → q_W σ p l e R s m args below meth c Q nL cells slots V G lv (pc + 3) st) : q_W σ p l e R s m args below meth c Q nL cells slots V G lv pc (.int (nI b) :: .int (nI a) :: st) := q_icmp_gt C tgt hd ht (fun h => kt ((nI_ltI hb ha).mp h)) (fun h => kf (Nat.not_lt.mp fun z => h ((nI_ltI hb ha).mpr z)))
theorem q_icmp_leN (C : q_C σ p s m args c cc nL own Ts) {a b : Nat} {off : Int} (tgt : Nat) (hd : decode cc pc = .ok (.if_icmp .le off, 3)) (ht : (pc : Int) + off = (tgt : Int)) (ha : a < 2 ^ 31) (hb : b < 2 ^ 31) (kt : a ≤ b → q_W σ p l e R s m args below meth c Q nL cells slots V G lv tgt st) (kf : b < a → q_W σ p l e R s m args below meth c Q nL cells slots V G lv (pc + 3) st) : q_W σ p l e R s m args below meth c Q nL cells slots V G lv pc (.int (nI b) :: .int (nI a) :: st) := q_icmp_le C tgt hd ht (fun h => kt ((nI_leI ha hb).mp h)) (fun h => kf (Nat.not_le.mp fun z => h ((nI_leI ha hb).mpr z)))
def q_up (V : q_V) (k j : Nat) (x : Int32) : q_V := fun a b => if a = k ∧ b = j then x else V a b
theorem q_up_self (V : q_V) (k j : Nat) (x : Int32) : q_up V k j x k j = x := if_pos ⟨rfl, rfl⟩
theorem q_up_ne (V : q_V) {k j a b : Nat} (x : Int32) (h : ¬ (a = k ∧ b = j)) : q_up V k j x a b = V a b := if_neg h
theorem q_up_row (V : q_V) (k j : Nat) (x : Int32) : q_up V k j x k = upd (V k) j x := by
  funext b
  by_cases h : b = j
  · simp [q_up, upd, h]
  · simp [q_up, upd, h]
theorem q_up_off (V : q_V) {k j a : Nat} (x : Int32) (h : a ≠ k) : q_up V k j x a = V a := by
  funext b
  exact if_neg fun z => h z.1
def q_upL (G : q_G) (k j : Nat) (x : Int64) : q_G := fun a b => if a = k ∧ b = j then x else G a b
theorem q_upL_self (G : q_G) (k j : Nat) (x : Int64) : q_upL G k j x k j = x := if_pos ⟨rfl, rfl⟩
theorem q_upL_ne (G : q_G) {k j a b : Nat} (x : Int64) (h : ¬ (a = k ∧ b = j)) : q_upL G k j x a b = G a b := if_neg h
theorem q_upL_row (G : q_G) (k j : Nat) (x : Int64) : q_upL G k j x k = vp_updL (G k) j x := by
  funext b
  by_cases h : b = j
  · simp [q_upL, vp_updL, h]
  · simp [q_upL, vp_updL, h]
theorem q_upL_off (G : q_G) {k j a : Nat} (x : Int64) (h : a ≠ k) : q_upL G k j x a = G a := by
  funext b
  exact if_neg fun z => h z.1
def q_isI (k n : Nat) : Prop := k < 90 ∧ q_kd k = 1 ∧ q_len k = n
def q_isL (k n : Nat) : Prop := k < 90 ∧ q_kd k = 2 ∧ q_len k = n
theorem q_isI_hand {i : Nat} (h : i < 7) : q_isI (20 + i) 8 := by
  have : ∀ i, i < 7 → (20 + i < 90 ∧ q_kd (20 + i) = 1 ∧ q_len (20 + i) = 8) := by decide +kernel
  exact this i h
theorem q_isI_cell {i : Nat} (h : i < 21) : q_isI (48 + i) 48 := by
  have : ∀ i, i < 21 → (48 + i < 90 ∧ q_kd (48 + i) = 1 ∧ q_len (48 + i) = 48) := by decide +kernel
  exact this i h
theorem q_isG {i : Nat} (h : i < 21) : 27 + i < 90 ∧ q_kd (27 + i) = 12 := by
  have : ∀ i, i < 21 → (27 + i < 90 ∧ q_kd (27 + i) = 12) := by decide +kernel
  exact this i h
theorem q_enG {σ : q_E} {i : Nat} {v : Nat → Int32} {w : Nat → Int64} (h : i < 21) : q_en σ (27 + i) v w = .inr (1, [.ref (σ.2.1 (48 + i)), .int (v 1), .int (v 2)]) := by
  rw [q_en12 (q_isG h).2, show 27 + i + 21 = 48 + i by omega]
theorem q_iald (C : q_C σ p s m args c cc nL own Ts) {k n : Nat} {i : Int32} (hk : q_isI k n) (hin : vp_in i n) (hd : decode cc pc = .ok (.iaload, 1)) (kk : q_W σ p l e R s m args below meth c Q nL cells slots V G lv (pc + 1) (.int (V k i.toNatClampNeg) :: st)) : q_W σ p l e R s m args below meth c Q nL cells slots V G lv pc (.int i :: .ref (σ.2.1 k) :: st) := fun H locs ls hP hS hl => va_iald C.1 C.2.1 C.2.2.2.2.2.1 hP k 0 ((q_ws_at hk.1).trans (by rw [q_en1 hk.2.1, hk.2.2])) rfl hin hd (kk H locs ls hP hS hl)
theorem q_ialdN (C : q_C σ p s m args c cc nL own Ts) {k n j : Nat} (hk : q_isI k n) (hj : j < n) (hn : n < 2 ^ 31) (hd : decode cc pc = .ok (.iaload, 1)) (kk : q_W σ p l e R s m args below meth c Q nL cells slots V G lv (pc + 1) (.int (V k j) :: st)) : q_W σ p l e R s m args below meth c Q nL cells slots V G lv pc (.int (nI j) :: .ref (σ.2.1 k) :: st) := by
  refine q_iald C hk (vp_in_nI hj hn) hd ?_
  rw [nI_clamp (by omega)]
  exact kk
theorem q_laldN (C : q_C σ p s m args c cc nL own Ts) {k n j : Nat} (hk : q_isL k n) (hj : j < n) (hn : n < 2 ^ 31) (hd : decode cc pc = .ok (.laload, 1)) (kk : q_W σ p l e R s m args below meth c Q nL cells slots V G lv (pc + 1) (.long (G k j) :: st)) : q_W σ p l e R s m args below meth c Q nL cells slots V G lv pc (.int (nI j) :: .ref (σ.2.1 k) :: st) := fun H locs ls hP hS hl => by
  refine va_lald C.1 C.2.1 C.2.2.2.2.2.1 hP k 1 ((q_ws_at hk.1).trans (by rw [q_en2 hk.2.1, hk.2.2])) rfl (vp_in_nI hj hn) hd ?_
  rw [nI_clamp (by omega)]
  exact (kk H locs ls hP hS hl)
theorem q_zaldN (C : q_C σ p s m args c cc nL own Ts) {j : Nat} (hj : j < 7) (hd : decode cc pc = .ok (.baload, 1)) (kk : q_W σ p l e R s m args below meth c Q nL cells slots V G lv (pc + 1) (.int (V 15 j) :: st)) : q_W σ p l e R s m args below meth c Q nL cells slots V G lv pc (.int (nI j) :: .ref (σ.2.1 15) :: st) := fun H locs ls hP hS hl => by
  refine va_zald C.1 C.2.1 C.2.2.2.2.2.1 hP 15 2 ((q_ws_at (by omega)).trans (by rw [q_en3 (by decide)]; rfl)) rfl (n := 7) (vp_in_nI hj (by omega)) hd ?_
  rw [nI_clamp (by omega)]
  exact (kk H locs ls hP hS hl)
theorem q_zastN (C : q_C σ p s m args c cc nL own Ts) {j : Nat} {x : Int32} (hj : j < 7) (hx : vp_nar .boolean x = x) (hd : decode cc pc = .ok (.bastore, 1)) (kk : q_W σ p l e R s m args below meth c Q nL cells slots (q_up V 15 j x) G lv (pc + 1) st) : q_W σ p l e R s m args below meth c Q nL cells slots V G lv pc (.int x :: .int (nI j) :: .ref (σ.2.1 15) :: st) := fun H locs ls hP hS hl => by
  refine va_zast C.1 C.2.1 C.2.2.2.2.2.1 hP (q_D C.2.2.2.2.2.2.1) hS 15 2 ((q_ws_at (by omega)).trans (by rw [q_en3 (by decide)]; rfl)) rfl (n := 7) (vp_in_nI hj (by omega)) hd (fun H1 locs1 h1 _ h3 => ?_)
  rw [nI_clamp (by omega), hx] at h1
  rw [q_ws_set (V' := q_up V 15 j x) (G' := G) (by rw [q_en3 (by decide), q_up_row]; rfl) (fun a ha => ⟨q_up_off V x ha, rfl⟩)] at h1
  exact kk H1 locs1 ls h1 h3 hl
theorem q_iastN (C : q_C σ p s m args c cc nL own Ts) {k n j : Nat} {x : Int32} (hk : q_isI k n) (hj : j < n) (hn : n < 2 ^ 31) (hd : decode cc pc = .ok (.iastore, 1)) (kk : q_W σ p l e R s m args below meth c Q nL cells slots (q_up V k j x) G lv (pc + 1) st) : q_W σ p l e R s m args below meth c Q nL cells slots V G lv pc (.int x :: .int (nI j) :: .ref (σ.2.1 k) :: st) := fun H locs ls hP hS hl => by
  refine va_iast C.1 C.2.1 C.2.2.2.2.2.1 hP (q_D C.2.2.2.2.2.2.1) hS k 0 ((q_ws_at hk.1).trans (by rw [q_en1 hk.2.1, hk.2.2])) rfl (vp_in_nI hj hn) hd (fun H1 locs1 h1 _ h3 => ?_)
  rw [nI_clamp (by omega)] at h1
  rw [q_ws_set (V' := q_up V k j x) (G' := G) (by rw [q_en1 hk.2.1, hk.2.2, q_up_row]) (fun a ha => ⟨q_up_off V x ha, rfl⟩)] at h1
  exact kk H1 locs1 ls h1 h3 hl
theorem q_lastN (C : q_C σ p s m args c cc nL own Ts) {k n j : Nat} {x : Int64} (hk : q_isL k n) (hj : j < n) (hn : n < 2 ^ 31) (hd : decode cc pc = .ok (.lastore, 1)) (kk : q_W σ p l e R s m args below meth c Q nL cells slots V (q_upL G k j x) lv (pc + 1) st) : q_W σ p l e R s m args below meth c Q nL cells slots V G lv pc (.long x :: .int (nI j) :: .ref (σ.2.1 k) :: st) := fun H locs ls hP hS hl => by
  refine va_last C.1 C.2.1 C.2.2.2.2.2.1 hP (q_D C.2.2.2.2.2.2.1) hS k 1 ((q_ws_at hk.1).trans (by rw [q_en2 hk.2.1, hk.2.2])) rfl (vp_in_nI hj hn) hd (fun H1 locs1 h1 _ h3 => ?_)
  rw [nI_clamp (by omega)] at h1
  rw [q_ws_set (V' := V) (G' := q_upL G k j x) (by rw [q_en2 hk.2.1, hk.2.2, q_upL_row]) (fun a ha => ⟨rfl, q_upL_off G x ha⟩)] at h1
  exact kk H1 locs1 ls h1 h3 hl
theorem q_alenI (C : q_C σ p s m args c cc nL own Ts) {k n : Nat} (hk : q_isI k n) (hd : decode cc pc = .ok (.arraylength, 1)) (kk : q_W σ p l e R s m args below meth c Q nL cells slots V G lv (pc + 1) (.int (nI n) :: st)) : q_W σ p l e R s m args below meth c Q nL cells slots V G lv pc (.ref (σ.2.1 k) :: st) := fun H locs ls hP hS hl => va_alen (x := (n, .inl (V k))) C.1 C.2.1 C.2.2.2.2.2.1 hP k 0 ((q_ws_at hk.1).trans (by rw [q_en1 hk.2.1, hk.2.2])) rfl rfl hd (kk H locs ls hP hS hl)
theorem q_aaldH (C : q_C σ p s m args c cc nL own Ts) {j : Nat} (hj : j < 7) (hd : decode cc pc = .ok (.aaload, 1)) (kk : q_W σ p l e R s m args below meth c Q nL cells slots V G lv (pc + 1) (.ref (σ.2.1 (20 + j)) :: st)) : q_W σ p l e R s m args below meth c Q nL cells slots V G lv pc (.int (nI j) :: .ref (σ.2.1 1) :: st) := fun H locs ls hP hS hl => by
  have ha : (q_ws σ V G)[1]? = some (σ.2.1 1, .inl (σ.2.2.2.2.2.2, 7, .inr (.inr (.inr (.inr (fun i => some (σ.2.1 (20 + i)))))))) := (q_ws_at (by omega)).trans (by rw [q_en5 (by decide)]; rfl)
  have hin : vp_in (nI j) 7 := vp_in_nI hj (by omega)
  have hz : (nI j).toNatClampNeg = j := nI_clamp (by omega)
  have hlt : (nI j).toNatClampNeg < 7 := by rw [hz]; exact hj
  refine W.aald (v := va_rf (some (σ.2.1 (20 + (nI j).toNatClampNeg)))) (ty := .array .int) C.1 C.2.1 (hP 1 _ ha) ((C.2.2.2.2.2.1.2 4 _ rfl).1 7 (fun i => va_rf (some (σ.2.1 (20 + i))))) rfl (fun q => by cases q) (by show ¬ (_ < 0 ∨ (arrV _ _ _).slots.size ≤ _); rw [arrV_size]; exact hin) (by show (arrV _ _ _).slots[_]? = _; rw [arrV_read _ _ hlt]) rfl rfl hd ?_
  rw [hz]
  exact (kk H locs ls hP hS hl)
theorem q_aaldP (C : q_C σ p s m args c cc nL own Ts) {j : Nat} (hj : j < 12) (hd : decode cc pc = .ok (.aaload, 1)) (kk : q_W σ p l e R s m args below meth c Q nL cells slots V G lv (pc + 1) (.ref (σ.2.1 (28 + j)) :: st)) : q_W σ p l e R s m args below meth c Q nL cells slots V G lv pc (.int (nI j) :: .ref (σ.2.1 4) :: st) := fun H locs ls hP hS hl => by
  refine va_aldq C.1 C.2.1 C.2.2.2.2.2.1 hP 4 3 ((q_ws_at (by omega)).trans (by rw [q_en4 (by decide)]; rfl)) rfl (n := 12) (vp_in_nI hj (by omega)) hd ?_
  rw [nI_clamp (by omega)]
  exact (kk H locs ls hP hS hl)
theorem q_aaldS (C : q_C σ p s m args c cc nL own Ts) {j : Nat} (hj : j < 8) (hd : decode cc pc = .ok (.aaload, 1)) (kk : q_W σ p l e R s m args below meth c Q nL cells slots V G lv (pc + 1) (.ref (σ.2.1 (40 + j)) :: st)) : q_W σ p l e R s m args below meth c Q nL cells slots V G lv pc (.int (nI j) :: .ref (σ.2.1 10) :: st) := fun H locs ls hP hS hl => by
  refine va_aldq C.1 C.2.1 C.2.2.2.2.2.1 hP 10 3 ((q_ws_at (by omega)).trans (by rw [q_en4 (by decide)]; rfl)) rfl (n := 8) (vp_in_nI hj (by omega)) hd ?_
  rw [nI_clamp (by omega)]
  exact (kk H locs ls hP hS hl)
theorem q_get (C : q_C σ p s m args c cc nL own Ts) {k ci fi N index : Nat} {CN : String} {T : u_T} {fs : List Value} (v : Value) (hk : k < 90) (he : q_en σ k (V k) (G k) = .inr (ci, fs)) (hc : vwCl[ci]? = some (CN, T, N)) (hin : ∀ w ∈ u_ws CN T N, w ∈ Ts) (hfi : fi < N) (hw : Cond.fieldLink own index CN (T fi).2.1 (T fi).2.2.1 ∈ Ts) (hr : (T fi).1 = CN) (hv : fs[fi]? = some v) (hd : decode cc pc = .ok (.getfield index, 3)) (kk : q_W σ p l e R s m args below meth c Q nL cells slots V G lv (pc + 3) (v :: st)) : q_W σ p l e R s m args below meth c Q nL cells slots V G lv pc (.ref (σ.2.1 k) :: st) := fun H locs ls hP hS hl =>
  va_get C.1 C.2.1 C.2.2.2.2.1 hin C.2.2.2.1 C.2.2.2.2.2.1 hP k ((q_ws_at hk).trans (by rw [he])) hc fi hfi (C.2.2.2.2.1 _ hw) (by rw [hr]; exact fun _ h => h) hv hd (kk H locs ls hP hS hl)
theorem q_getN (C : q_C σ p s m args c cc nL own Ts) {k ci fi N index : Nat} {CN host : String} {T : u_T} {fs : List Value} (v : Value) (hk : k < 90) (he : q_en σ k (V k) (G k) = .inr (ci, fs)) (hc : vwCl[ci]? = some (CN, T, N)) (hin : ∀ w ∈ u_ws CN T N, w ∈ Ts) (hfi : fi < N) (hw : Cond.fieldLinkNest own index CN (T fi).2.1 (T fi).2.2.1 host ∈ q_nw) (hr : (T fi).1 = CN) (hv : fs[fi]? = some v) (hd : decode cc pc = .ok (.getfield index, 3)) (kk : q_W σ p l e R s m args below meth c Q nL cells slots V G lv (pc + 3) (v :: st)) : q_W σ p l e R s m args below meth c Q nL cells slots V G lv pc (.ref (σ.2.1 k) :: st) := fun H locs ls hP hS hl =>
  va_getN C.1 C.2.1 C.2.2.2.2.1 hin C.2.2.2.1 C.2.2.2.2.2.1 hP k ((q_ws_at hk).trans (by rw [he])) hc fi hfi (va_Nw.use rfl (C.2.2.2.2.2.2.2.1 _ hw)) (by rw [hr]; exact fun _ h => h) hv hd (kk H locs ls hP hS hl)
theorem q_put (C : q_C σ p s m args c cc nL own Ts) {k ci fi N index : Nat} {CN : String} {T : u_T} {fs : List Value} {x : Int32} (ty0 : Nat → FieldType) (hty : ∀ k, k < N → parseFieldDescriptor (T k).2.2.1 = some (ty0 k)) (hnm : ∀ a, a < N → ∀ b, b < N → a ≠ b → (T a).2.1 ≠ (T b).2.1) (hk : k < 90) (he : q_en σ k (V k) (G k) = .inr (ci, fs)) (hc : vwCl[ci]? = some (CN, T, N)) (hin : ∀ w ∈ u_ws CN T N, w ∈ Ts) (hfi : fi < N) (hw : Cond.fieldLink own index CN (T fi).2.1 (T fi).2.2.1 ∈ Ts) (hr : (T fi).1 = CN) (hfin : (T fi).2.2.2 = false) (hd9 : parseFieldDescriptor (T fi).2.2.1 = some .int) (hl9 : fi < fs.length) (he2 : q_en σ k (q_up V k fi x k) (G k) = .inr (ci, fs.set fi (.int x))) (hd : decode cc pc = .ok (.putfield index, 3)) (kk : q_W σ p l e R s m args below meth c Q nL cells slots (q_up V k fi x) G lv (pc + 3) st) : q_W σ p l e R s m args below meth c Q nL cells slots V G lv pc (.int x :: .ref (σ.2.1 k) :: st) := fun H locs ls hP hS hl => by
  refine va_put (ty := .int) (v := .int x) C.1 C.2.1 C.2.2.2.2.1 hin ty0 hty hnm C.2.2.2.1 C.2.2.2.2.2.1 hP (q_D C.2.2.2.2.2.2.1) hS k ((q_ws_at hk).trans (by rw [he])) hc fi hfi (C.2.2.2.2.1 _ hw) (by rw [hr]; exact fun _ h => h) hfin hd9 rfl rfl hl9 hd (fun H1 locs1 h1 _ h3 => ?_)
  rw [q_ws_set (V' := q_up V k fi x) (G' := G) he2 (fun a ha => ⟨q_up_off V x ha, rfl⟩)] at h1
  exact kk H1 locs1 ls h1 h3 hl
theorem q_widen {k n : Nat} (h1 : cells ≤ k) (h2 : slots ≤ n) (kk : q_W σ p l e R s m args below meth c Q nL k n V G lv pc st) : q_W σ p l e R s m args below meth c Q nL cells slots V G lv pc st := fun H locs ls hP hS hl => W.widen h1 h2 (kk H locs ls hP hS hl)
theorem q_sub {lv' : List (Nat × Value)} (ks : List Nat) (h : lv_pick lv ks = lv') (kk : q_W σ p l e R s m args below meth c Q nL cells slots V G lv' pc st) : q_W σ p l e R s m args below meth c Q nL cells slots V G lv pc st := fun H locs ls hP hS hl => kk H locs ls hP hS (lv_sub hl ks h)
theorem q_VG {V' : q_V} {G' : q_G} (h : V = V') (h2 : G = G') (kk : q_W σ p l e R s m args below meth c Q nL cells slots V' G' lv pc st) : q_W σ p l e R s m args below meth c Q nL cells slots V G lv pc st := by subst h; subst h2; exact kk
theorem q_stk {st' : List Value} (h : st = st') (kk : q_W σ p l e R s m args below meth c Q nL cells slots V G lv pc st') : q_W σ p l e R s m args below meth c Q nL cells slots V G lv pc st := by subst h; exact kk
end QROWS
end
section
section QCALLS
variable {σ : q_E} {p : Program} {l : Launch} {e : Env} {R : Room} {s : State} {m : MethodId} {args : Array Value} {below : List Frame} {meth : Method} {c : Code} {Q : State → Prop} {nL cells slots : Nat} {V : q_V} {G : q_G} {lv : List (Nat × Value)} {pc : Nat} {cc : ByteArray} {own : String} {Ts : List Cond}
variable {y : MethodName} {ws ws' : List Cond} {rm : Room} {mc ms index maxL : Nat} {bytes : ByteArray} {ret : Option FieldType} {As rest : List Value} {Qc : Array Value → State → Outcome → State → Prop} {H : Heap} {locs : List Loc} {ls : Array Slot} {a : Array Value}
theorem q_runV (C : q_C σ p s m args c cc nL own Ts) {k ci : Nat} {q : vw_C} {fs : List Value} (hk : k < 90) (he : q_en σ k (V k) (G k) = .inr (ci, fs)) (hc : vwCl[ci]? = some q) (hq : q.1 = y.cls) (hP : va_P σ.1 vwCl (q_ws σ V G) H) (hS : va_S (q_A σ s.heap.size) s.heap H locs) (hl : lv_has ls nL lv) (hM : Met l y ws rm (va_Pc (.ref (σ.2.1 k) :: As) (q_Pc σ H.size V G)) Qc mc ms (q_A σ H.size)) (n : Nat) (hG : GoodIn Ts (wsV own index y.cls y ws)) (hw : ws = Cond.code y bytes maxL ret :: ws') (hrc : rm.cells = mc) (hrs : rm.slots = ms) (hy : y.cls ≠ "java/lang/invoke/MethodHandle" ∧ y.cls ≠ "java/lang/invoke/VarHandle" ∧ (parseMethodDescriptor y.desc).map (fun d => d.parameters.length) = some n) (hR : rm.frames + 1 ≤ R.frames ∧ 8 + (maxL + 11) + rm.locals ≤ R.locals) (hd : decode cc pc = .ok (.invokevirtual index, 3)) (hn : As.length = n) (hroom : (rest.map fun v => v.category).sum ≤ 8) (hf : cells + mc ≤ R.cells ∧ slots + ms ≤ R.slots) : va_Run p l e R s m args below meth c H locs cells slots mc ms (F0 m pc ls (As.reverse ++ .ref (σ.2.1 k) :: rest)) rest (Qc (Value.ref (σ.2.1 k) :: As).toArray) (q_A σ H.size) :=
  va_runV (As := As) (rest := rest) ⟨C.1, C.2.1, C.2.2.1, C.2.2.2.1, C.2.2.2.2.1⟩ hM (cwV n C.2.2.2.2.1 hG hw hrc hrs ⟨rfl, hy.1, hy.2.1, hy.2.2⟩ hR) ⟨q_blind, by rw [← hq]; exact va_recv C.2.2.2.2.2.1 hP hc ((q_ws_at hk).trans (by rw [he])), fun U hU hW => ⟨rfl, by rw [hU], by rw [hU]; exact hP, q_K_run C.2.2.2.2.2 hS hU hW⟩⟩ rfl hn hl.1 rfl (lv_room hroom) hd hf
theorem q_xrunV (C : q_C σ p s m args c cc nL own Ts) {XC : String → State → State → Prop} {k ci : Nat} {q : vw_C} {fs : List Value} (hk : k < 90) (he : q_en σ k (V k) (G k) = .inr (ci, fs)) (hc : vwCl[ci]? = some q) (hq : q.1 = y.cls) (hP : va_P σ.1 vwCl (q_ws σ V G) H) (hS : va_S (q_A σ s.heap.size) s.heap H locs) (hl : lv_has ls nL lv) (hM : vx_Met l y ws rm (va_Pc (.ref (σ.2.1 k) :: As) (q_Pc σ H.size V G)) Qc XC mc ms (q_A σ H.size)) (n : Nat) (hG : GoodIn Ts (wsV own index y.cls y ws)) (hw : ws = Cond.code y bytes maxL ret :: ws') (hrc : rm.cells = mc) (hrs : rm.slots = ms) (hy : y.cls ≠ "java/lang/invoke/MethodHandle" ∧ y.cls ≠ "java/lang/invoke/VarHandle" ∧ (parseMethodDescriptor y.desc).map (fun d => d.parameters.length) = some n) (hR : rm.frames + 1 ≤ R.frames ∧ 8 + (maxL + 11) + rm.locals ≤ R.locals) (hd : decode cc pc = .ok (.invokevirtual index, 3)) (hn : As.length = n) (hroom : (rest.map fun v => v.category).sum ≤ 8) (hf : cells + mc ≤ R.cells ∧ slots + ms ≤ R.slots) : vx_Run p l e R s m args below meth c H locs cells slots mc ms (F0 m pc ls (As.reverse ++ .ref (σ.2.1 k) :: rest)) rest (Qc (Value.ref (σ.2.1 k) :: As).toArray) XC (q_A σ H.size) :=
  vx_runV (As := As) (rest := rest) ⟨C.1, C.2.1, C.2.2.1, C.2.2.2.1, C.2.2.2.2.1⟩ hM (cwV n C.2.2.2.2.1 hG hw hrc hrs ⟨rfl, hy.1, hy.2.1, hy.2.2⟩ hR) ⟨q_blind, by rw [← hq]; exact va_recv C.2.2.2.2.2.1 hP hc ((q_ws_at hk).trans (by rw [he])), fun U hU hW => ⟨rfl, by rw [hU], by rw [hU]; exact hP, q_K_run C.2.2.2.2.2 hS hU hW⟩⟩ rfl hn hl.1 rfl (lv_room hroom) hd hf
theorem q_runS (C : q_C σ p s m args c cc nL own Ts)  (hP : va_P σ.1 vwCl (q_ws σ V G) H) (hS : va_S (q_A σ s.heap.size) s.heap H locs) (hl : lv_has ls nL lv) (hM : Met l y ws rm (va_Pc (As) (q_Pc σ H.size V G)) Qc mc ms (q_A σ H.size)) (n : Nat) (hG : GoodIn Ts (va_wsS own index y ws)) (hw : ws = Cond.code y bytes maxL ret :: ws') (hrc : rm.cells = mc) (hrs : rm.slots = ms) (hy : y.cls ≠ "java/lang/invoke/MethodHandle" ∧ y.cls ≠ "java/lang/invoke/VarHandle" ∧ (parseMethodDescriptor y.desc).map (fun d => d.parameters.length) = some n) (hR : rm.frames + 1 ≤ R.frames ∧ 8 + (maxL + 11) + rm.locals ≤ R.locals) (hd : decode cc pc = .ok (.invokestatic index, 3)) (hn : As.length = n) (hroom : (rest.map fun v => v.category).sum ≤ 8) (hf : cells + mc ≤ R.cells ∧ slots + ms ≤ R.slots) : va_Run p l e R s m args below meth c H locs cells slots mc ms (F0 m pc ls (As.reverse ++ rest)) rest (Qc As.toArray) (q_A σ H.size) :=
  va_runS (As := As) (rest := rest) ⟨C.1, C.2.1, C.2.2.1, C.2.2.2.1, C.2.2.2.2.1⟩ hM (va_cwS n C.2.2.2.2.1 hG hw hrc hrs hy hR) ⟨q_blind, fun U hU hW => ⟨rfl, by rw [hU], by rw [hU]; exact hP, q_K_run C.2.2.2.2.2 hS hU hW⟩⟩ rfl hn hl.1 rfl (lv_room hroom) hd hf
theorem q_xrunS (C : q_C σ p s m args c cc nL own Ts) {XC : String → State → State → Prop}  (hP : va_P σ.1 vwCl (q_ws σ V G) H) (hS : va_S (q_A σ s.heap.size) s.heap H locs) (hl : lv_has ls nL lv) (hM : vx_Met l y ws rm (va_Pc (As) (q_Pc σ H.size V G)) Qc XC mc ms (q_A σ H.size)) (n : Nat) (hG : GoodIn Ts (va_wsS own index y ws)) (hw : ws = Cond.code y bytes maxL ret :: ws') (hrc : rm.cells = mc) (hrs : rm.slots = ms) (hy : y.cls ≠ "java/lang/invoke/MethodHandle" ∧ y.cls ≠ "java/lang/invoke/VarHandle" ∧ (parseMethodDescriptor y.desc).map (fun d => d.parameters.length) = some n) (hR : rm.frames + 1 ≤ R.frames ∧ 8 + (maxL + 11) + rm.locals ≤ R.locals) (hd : decode cc pc = .ok (.invokestatic index, 3)) (hn : As.length = n) (hroom : (rest.map fun v => v.category).sum ≤ 8) (hf : cells + mc ≤ R.cells ∧ slots + ms ≤ R.slots) : vx_Run p l e R s m args below meth c H locs cells slots mc ms (F0 m pc ls (As.reverse ++ rest)) rest (Qc As.toArray) XC (q_A σ H.size) :=
  vx_runS (As := As) (rest := rest) ⟨C.1, C.2.1, C.2.2.1, C.2.2.2.1, C.2.2.2.2.1⟩ hM (va_cwS n C.2.2.2.2.1 hG hw hrc hrs hy hR) ⟨q_blind, fun U hU hW => ⟨rfl, by rw [hU], by rw [hU]; exact hP, q_K_run C.2.2.2.2.2 hS hU hW⟩⟩ rfl hn hl.1 rfl (lv_room hroom) hd hf
theorem q_runN (C : q_C σ p s m args c cc nL own Ts) {k ci : Nat} {q : vw_C} {fs : List Value} (hk : k < 90) (he : q_en σ k (V k) (G k) = .inr (ci, fs)) (hc : vwCl[ci]? = some q) (hq : q.1 = y.cls) (hP : va_P σ.1 vwCl (q_ws σ V G) H) (hS : va_S (q_A σ s.heap.size) s.heap H locs) (hl : lv_has ls nL lv) (hM : Met l y ws rm (va_Pc (.ref (σ.2.1 k) :: As) (q_Pc σ H.size V G)) Qc mc ms (q_A σ H.size)) {host : String} (n : Nat) (hG : GoodIn Ts ws) (hw : ws = Cond.code y bytes maxL ret :: ws') (hrc : rm.cells = mc) (hrs : rm.slots = ms) (hnw : Cond.methodLinkNest own index y host ∈ q_nw) (hin1 : Cond.instanceMethod y ∈ Ts) (hin2 : Cond.selects y.cls y y ∈ Ts) (hin3 : Cond.initialized y.cls ∈ Ts) (hy : y.cls ≠ "java/lang/invoke/MethodHandle" ∧ y.cls ≠ "java/lang/invoke/VarHandle" ∧ (parseMethodDescriptor y.desc).map (fun d => d.parameters.length) = some n) (hR : rm.frames + 1 ≤ R.frames ∧ 8 + (maxL + 11) + rm.locals ≤ R.locals) (hd : decode cc pc = .ok (.invokevirtual index, 3)) (hn : As.length = n) (hroom : (rest.map fun v => v.category).sum ≤ 8) (hf : cells + mc ≤ R.cells ∧ slots + ms ≤ R.slots) : va_Run p l e R s m args below meth c H locs cells slots mc ms (F0 m pc ls (As.reverse ++ .ref (σ.2.1 k) :: rest)) rest (Qc (Value.ref (σ.2.1 k) :: As).toArray) (q_A σ H.size) :=
  va_runVN (As := As) (rest := rest) ⟨C.1, C.2.1, C.2.2.1, C.2.2.2.1, C.2.2.2.2.1⟩ hM (⟨va_cnB n C.2.2.2.2.1 hG hw hrc hrs (C.2.2.2.2.2.2.2.1 _ hnw) (C.2.2.2.2.1 _ hin3) hy hR, C.2.2.2.2.1 _ hin1, C.2.2.2.2.1 _ hin2⟩) ⟨q_blind, by rw [← hq]; exact va_recv C.2.2.2.2.2.1 hP hc ((q_ws_at hk).trans (by rw [he])), fun U hU hW => ⟨rfl, by rw [hU], by rw [hU]; exact hP, q_K_run C.2.2.2.2.2 hS hU hW⟩⟩ rfl hn hl.1 rfl (lv_room hroom) hd hf
theorem q_runW (C : q_C σ p s m args c cc nL own Ts)  (hP : va_P σ.1 vwCl (q_ws σ V G) H) (hS : va_S (q_A σ s.heap.size) s.heap H locs) (hl : lv_has ls nL lv) (hM : Met l y ws rm (va_Pc (As) (q_Pc σ H.size V G)) Qc mc ms (q_A σ H.size)) {hh : List (Nat × Nat × Nat × Nat)} (n : Nat) (hG : GoodIn Ts (va_wsS own index y ws)) (hw : ws = Cond.codeWith y bytes maxL ret hh :: ws') (hrc : rm.cells = mc) (hrs : rm.slots = ms) (hy : y.cls ≠ "java/lang/invoke/MethodHandle" ∧ y.cls ≠ "java/lang/invoke/VarHandle" ∧ (parseMethodDescriptor y.desc).map (fun d => d.parameters.length) = some n) (hR : rm.frames + 1 ≤ R.frames ∧ 8 + (maxL + 11) + rm.locals ≤ R.locals) (hd : decode cc pc = .ok (.invokestatic index, 3)) (hn : As.length = n) (hroom : (rest.map fun v => v.category).sum ≤ 8) (hf : cells + mc ≤ R.cells ∧ slots + ms ≤ R.slots) : va_Run p l e R s m args below meth c H locs cells slots mc ms (F0 m pc ls (As.reverse ++ rest)) rest (Qc As.toArray) (q_A σ H.size) :=
  vx_runSW (As := As) (rest := rest) ⟨C.1, C.2.1, C.2.2.1, C.2.2.2.1, C.2.2.2.2.1⟩ hM (vx_cwSW n C.2.2.2.2.1 hG hw hrc hrs hy hR) ⟨q_blind, fun U hU hW => ⟨rfl, by rw [hU], by rw [hU]; exact hP, q_K_run C.2.2.2.2.2 hS hU hW⟩⟩ rfl hn hl.1 rfl (lv_room hroom) hd hf
theorem q_goi {post : Int32 → q_V → q_G → Prop} {st : List Value} (hr : ∀ (H : Heap) (locs : List Loc) (ls : Array Slot), va_P σ.1 vwCl (q_ws σ V G) H → va_S (q_A σ s.heap.size) s.heap H locs → lv_has ls nL lv → va_Run p l e R s m args below meth c H locs cells slots mc ms (F0 m pc ls st) rest (va_Qi (fun r (u : q_V × q_G) => post r u.1 u.2) (q_B σ) (q_A σ H.size) a) (q_A σ H.size)) (kk : ∀ (r : Int32) (V' : q_V) (G' : q_G), post r V' G' → q_W σ p l e R s m args below meth c Q nL (cells + mc) (slots + ms) V' G' lv (pc + 3) (.int r :: rest)) : q_W σ p l e R s m args below meth c Q nL cells slots V G lv pc st := fun H locs ls hP hS hl => va_calli (hr H locs ls hP hS hl) hS (fun q _ h => q_A_mono hS.1 h) (fun q h => q_A_mono hS.1 h) (fun r u t H1 locs1 ht hvm hpost hB hz hk1 hS1 => kk r u.1 u.2 hpost H1 locs1 ls (by rw [← ht]; exact hB) hS1 hl)
theorem q_xgoi {post : Int32 → q_V → q_G → Prop} {px : String → q_V → q_G → Prop} {st : List Value} (hr : ∀ (H : Heap) (locs : List Loc) (ls : Array Slot), va_P σ.1 vwCl (q_ws σ V G) H → va_S (q_A σ s.heap.size) s.heap H locs → lv_has ls nL lv → vx_Run p l e R s m args below meth c H locs cells slots mc ms (F0 m pc ls st) rest (va_Qi (fun r (u : q_V × q_G) => post r u.1 u.2) (q_B σ) (q_A σ H.size) a) (vx_X (fun _ => True) (q_BX σ px) (q_A σ H.size)) (q_A σ H.size)) (kx : ∀ (E : String) (V' : q_V) (G' : q_G), px E V' G' → q_X σ p l e R s m args below meth c Q nL (cells + mc) (slots + ms) E V' G' lv pc rest) (kk : ∀ (r : Int32) (V' : q_V) (G' : q_G), post r V' G' → q_W σ p l e R s m args below meth c Q nL (cells + mc) (slots + ms) V' G' lv (pc + 3) (.int r :: rest)) : q_W σ p l e R s m args below meth c Q nL cells slots V G lv pc st := fun H locs ls hP hS hl => vx_calli (hr H locs ls hP hS hl) hS (fun q _ h => q_A_mono hS.1 h) (fun q h => q_A_mono hS.1 h) (fun q _ h => q_A_mono hS.1 h) (fun E ce q9 u t H1 locs1 ht hvm _ hB hz hk1 hS1 h1 h2 h3 => kx E u.1 u.2 hB.1 H1 locs1 ls ce q9 (by rw [← ht]; exact hB.2) hS1 hl h1 h2 h3) (fun r u t H1 locs1 ht hvm hpost hB hz hk1 hS1 => kk r u.1 u.2 hpost H1 locs1 ls (by rw [← ht]; exact hB) hS1 hl)
theorem q_callVi (C : q_C σ p s m args c cc nL own Ts) {post : Int32 → q_V → q_G → Prop} {k ci : Nat} {q : vw_C} {fs : List Value} (hk : k < 90) (he : q_en σ k (V k) (G k) = .inr (ci, fs)) (hc : vwCl[ci]? = some q) (hq : q.1 = y.cls) (hM : q_Mi l y ws rm σ (.ref (σ.2.1 k) :: As) V G post mc ms) (n : Nat) (hG : GoodIn Ts (wsV own index y.cls y ws)) (hw : ws = Cond.code y bytes maxL ret :: ws') (hrc : rm.cells = mc) (hrs : rm.slots = ms) (hy : y.cls ≠ "java/lang/invoke/MethodHandle" ∧ y.cls ≠ "java/lang/invoke/VarHandle" ∧ (parseMethodDescriptor y.desc).map (fun d => d.parameters.length) = some n) (hR : rm.frames + 1 ≤ R.frames ∧ 8 + (maxL + 11) + rm.locals ≤ R.locals) (hd : decode cc pc = .ok (.invokevirtual index, 3)) (hn : As.length = n) (hroom : (rest.map fun v => v.category).sum ≤ 8) (hf : cells + mc ≤ R.cells ∧ slots + ms ≤ R.slots) (kk : ∀ (r : Int32) (V' : q_V) (G' : q_G), post r V' G' → q_W σ p l e R s m args below meth c Q nL (cells + mc) (slots + ms) V' G' lv (pc + 3) (.int r :: rest)) : q_W σ p l e R s m args below meth c Q nL cells slots V G lv pc (As.reverse ++ .ref (σ.2.1 k) :: rest) := q_goi (fun H locs ls hP hS hl => q_runV C hk he hc hq hP hS hl (hM H.size) n hG hw hrc hrs hy hR hd hn hroom hf) kk
theorem q_xcallVi (C : q_C σ p s m args c cc nL own Ts) {post : Int32 → q_V → q_G → Prop} {px : String → q_V → q_G → Prop} {k ci : Nat} {q : vw_C} {fs : List Value} (hk : k < 90) (he : q_en σ k (V k) (G k) = .inr (ci, fs)) (hc : vwCl[ci]? = some q) (hq : q.1 = y.cls) (hM : q_Xi l y ws rm σ (.ref (σ.2.1 k) :: As) V G post px mc ms) (n : Nat) (hG : GoodIn Ts (wsV own index y.cls y ws)) (hw : ws = Cond.code y bytes maxL ret :: ws') (hrc : rm.cells = mc) (hrs : rm.slots = ms) (hy : y.cls ≠ "java/lang/invoke/MethodHandle" ∧ y.cls ≠ "java/lang/invoke/VarHandle" ∧ (parseMethodDescriptor y.desc).map (fun d => d.parameters.length) = some n) (hR : rm.frames + 1 ≤ R.frames ∧ 8 + (maxL + 11) + rm.locals ≤ R.locals) (hd : decode cc pc = .ok (.invokevirtual index, 3)) (hn : As.length = n) (hroom : (rest.map fun v => v.category).sum ≤ 8) (hf : cells + mc ≤ R.cells ∧ slots + ms ≤ R.slots) (kx : ∀ (E : String) (V' : q_V) (G' : q_G), px E V' G' → q_X σ p l e R s m args below meth c Q nL (cells + mc) (slots + ms) E V' G' lv pc rest) (kk : ∀ (r : Int32) (V' : q_V) (G' : q_G), post r V' G' → q_W σ p l e R s m args below meth c Q nL (cells + mc) (slots + ms) V' G' lv (pc + 3) (.int r :: rest)) : q_W σ p l e R s m args below meth c Q nL cells slots V G lv pc (As.reverse ++ .ref (σ.2.1 k) :: rest) := q_xgoi (fun H locs ls hP hS hl => q_xrunV C hk he hc hq hP hS hl (hM H.size) n hG hw hrc hrs hy hR hd hn hroom hf) kx kk
theorem q_callSi (C : q_C σ p s m args c cc nL own Ts) {post : Int32 → q_V → q_G → Prop}  (hM : q_Mi l y ws rm σ (As) V G post mc ms) (n : Nat) (hG : GoodIn Ts (va_wsS own index y ws)) (hw : ws = Cond.code y bytes maxL ret :: ws') (hrc : rm.cells = mc) (hrs : rm.slots = ms) (hy : y.cls ≠ "java/lang/invoke/MethodHandle" ∧ y.cls ≠ "java/lang/invoke/VarHandle" ∧ (parseMethodDescriptor y.desc).map (fun d => d.parameters.length) = some n) (hR : rm.frames + 1 ≤ R.frames ∧ 8 + (maxL + 11) + rm.locals ≤ R.locals) (hd : decode cc pc = .ok (.invokestatic index, 3)) (hn : As.length = n) (hroom : (rest.map fun v => v.category).sum ≤ 8) (hf : cells + mc ≤ R.cells ∧ slots + ms ≤ R.slots) (kk : ∀ (r : Int32) (V' : q_V) (G' : q_G), post r V' G' → q_W σ p l e R s m args below meth c Q nL (cells + mc) (slots + ms) V' G' lv (pc + 3) (.int r :: rest)) : q_W σ p l e R s m args below meth c Q nL cells slots V G lv pc (As.reverse ++ rest) := q_goi (fun H locs ls hP hS hl => q_runS C  hP hS hl (hM H.size) n hG hw hrc hrs hy hR hd hn hroom hf) kk
theorem q_xcallSi (C : q_C σ p s m args c cc nL own Ts) {post : Int32 → q_V → q_G → Prop} {px : String → q_V → q_G → Prop}  (hM : q_Xi l y ws rm σ (As) V G post px mc ms) (n : Nat) (hG : GoodIn Ts (va_wsS own index y ws)) (hw : ws = Cond.code y bytes maxL ret :: ws') (hrc : rm.cells = mc) (hrs : rm.slots = ms) (hy : y.cls ≠ "java/lang/invoke/MethodHandle" ∧ y.cls ≠ "java/lang/invoke/VarHandle" ∧ (parseMethodDescriptor y.desc).map (fun d => d.parameters.length) = some n) (hR : rm.frames + 1 ≤ R.frames ∧ 8 + (maxL + 11) + rm.locals ≤ R.locals) (hd : decode cc pc = .ok (.invokestatic index, 3)) (hn : As.length = n) (hroom : (rest.map fun v => v.category).sum ≤ 8) (hf : cells + mc ≤ R.cells ∧ slots + ms ≤ R.slots) (kx : ∀ (E : String) (V' : q_V) (G' : q_G), px E V' G' → q_X σ p l e R s m args below meth c Q nL (cells + mc) (slots + ms) E V' G' lv pc rest) (kk : ∀ (r : Int32) (V' : q_V) (G' : q_G), post r V' G' → q_W σ p l e R s m args below meth c Q nL (cells + mc) (slots + ms) V' G' lv (pc + 3) (.int r :: rest)) : q_W σ p l e R s m args below meth c Q nL cells slots V G lv pc (As.reverse ++ rest) := q_xgoi (fun H locs ls hP hS hl => q_xrunS C  hP hS hl (hM H.size) n hG hw hrc hrs hy hR hd hn hroom hf) kx kk
theorem q_callNi (C : q_C σ p s m args c cc nL own Ts) {post : Int32 → q_V → q_G → Prop} {k ci : Nat} {q : vw_C} {fs : List Value} (hk : k < 90) (he : q_en σ k (V k) (G k) = .inr (ci, fs)) (hc : vwCl[ci]? = some q) (hq : q.1 = y.cls) (hM : q_Mi l y ws rm σ (.ref (σ.2.1 k) :: As) V G post mc ms) {host : String} (n : Nat) (hG : GoodIn Ts ws) (hw : ws = Cond.code y bytes maxL ret :: ws') (hrc : rm.cells = mc) (hrs : rm.slots = ms) (hnw : Cond.methodLinkNest own index y host ∈ q_nw) (hin1 : Cond.instanceMethod y ∈ Ts) (hin2 : Cond.selects y.cls y y ∈ Ts) (hin3 : Cond.initialized y.cls ∈ Ts) (hy : y.cls ≠ "java/lang/invoke/MethodHandle" ∧ y.cls ≠ "java/lang/invoke/VarHandle" ∧ (parseMethodDescriptor y.desc).map (fun d => d.parameters.length) = some n) (hR : rm.frames + 1 ≤ R.frames ∧ 8 + (maxL + 11) + rm.locals ≤ R.locals) (hd : decode cc pc = .ok (.invokevirtual index, 3)) (hn : As.length = n) (hroom : (rest.map fun v => v.category).sum ≤ 8) (hf : cells + mc ≤ R.cells ∧ slots + ms ≤ R.slots) (kk : ∀ (r : Int32) (V' : q_V) (G' : q_G), post r V' G' → q_W σ p l e R s m args below meth c Q nL (cells + mc) (slots + ms) V' G' lv (pc + 3) (.int r :: rest)) : q_W σ p l e R s m args below meth c Q nL cells slots V G lv pc (As.reverse ++ .ref (σ.2.1 k) :: rest) := q_goi (fun H locs ls hP hS hl => q_runN C hk he hc hq hP hS hl (hM H.size) n hG hw hrc hrs hnw hin1 hin2 hin3 hy hR hd hn hroom hf) kk
theorem q_callWi (C : q_C σ p s m args c cc nL own Ts) {post : Int32 → q_V → q_G → Prop}  (hM : q_Mi l y ws rm σ (As) V G post mc ms) {hh : List (Nat × Nat × Nat × Nat)} (n : Nat) (hG : GoodIn Ts (va_wsS own index y ws)) (hw : ws = Cond.codeWith y bytes maxL ret hh :: ws') (hrc : rm.cells = mc) (hrs : rm.slots = ms) (hy : y.cls ≠ "java/lang/invoke/MethodHandle" ∧ y.cls ≠ "java/lang/invoke/VarHandle" ∧ (parseMethodDescriptor y.desc).map (fun d => d.parameters.length) = some n) (hR : rm.frames + 1 ≤ R.frames ∧ 8 + (maxL + 11) + rm.locals ≤ R.locals) (hd : decode cc pc = .ok (.invokestatic index, 3)) (hn : As.length = n) (hroom : (rest.map fun v => v.category).sum ≤ 8) (hf : cells + mc ≤ R.cells ∧ slots + ms ≤ R.slots) (kk : ∀ (r : Int32) (V' : q_V) (G' : q_G), post r V' G' → q_W σ p l e R s m args below meth c Q nL (cells + mc) (slots + ms) V' G' lv (pc + 3) (.int r :: rest)) : q_W σ p l e R s m args below meth c Q nL cells slots V G lv pc (As.reverse ++ rest) := q_goi (fun H locs ls hP hS hl => q_runW C  hP hS hl (hM H.size) n hG hw hrc hrs hy hR hd hn hroom hf) kk
theorem q_gol {post : Int64 → q_V → q_G → Prop} {st : List Value} (hr : ∀ (H : Heap) (locs : List Loc) (ls : Array Slot), va_P σ.1 vwCl (q_ws σ V G) H → va_S (q_A σ s.heap.size) s.heap H locs → lv_has ls nL lv → va_Run p l e R s m args below meth c H locs cells slots mc ms (F0 m pc ls st) rest (va_Ql (fun r (u : q_V × q_G) => post r u.1 u.2) (q_B σ) (q_A σ H.size) a) (q_A σ H.size)) (kk : ∀ (r : Int64) (V' : q_V) (G' : q_G), post r V' G' → q_W σ p l e R s m args below meth c Q nL (cells + mc) (slots + ms) V' G' lv (pc + 3) (.long r :: rest)) : q_W σ p l e R s m args below meth c Q nL cells slots V G lv pc st := fun H locs ls hP hS hl => va_calll (hr H locs ls hP hS hl) hS (fun q _ h => q_A_mono hS.1 h) (fun q h => q_A_mono hS.1 h) (fun r u t H1 locs1 ht hvm hpost hB hz hk1 hS1 => kk r u.1 u.2 hpost H1 locs1 ls (by rw [← ht]; exact hB) hS1 hl)
theorem q_xgol {post : Int64 → q_V → q_G → Prop} {px : String → q_V → q_G → Prop} {st : List Value} (hr : ∀ (H : Heap) (locs : List Loc) (ls : Array Slot), va_P σ.1 vwCl (q_ws σ V G) H → va_S (q_A σ s.heap.size) s.heap H locs → lv_has ls nL lv → vx_Run p l e R s m args below meth c H locs cells slots mc ms (F0 m pc ls st) rest (va_Ql (fun r (u : q_V × q_G) => post r u.1 u.2) (q_B σ) (q_A σ H.size) a) (vx_X (fun _ => True) (q_BX σ px) (q_A σ H.size)) (q_A σ H.size)) (kx : ∀ (E : String) (V' : q_V) (G' : q_G), px E V' G' → q_X σ p l e R s m args below meth c Q nL (cells + mc) (slots + ms) E V' G' lv pc rest) (kk : ∀ (r : Int64) (V' : q_V) (G' : q_G), post r V' G' → q_W σ p l e R s m args below meth c Q nL (cells + mc) (slots + ms) V' G' lv (pc + 3) (.long r :: rest)) : q_W σ p l e R s m args below meth c Q nL cells slots V G lv pc st := fun H locs ls hP hS hl => vx_calll (hr H locs ls hP hS hl) hS (fun q _ h => q_A_mono hS.1 h) (fun q h => q_A_mono hS.1 h) (fun q _ h => q_A_mono hS.1 h) (fun E ce q9 u t H1 locs1 ht hvm _ hB hz hk1 hS1 h1 h2 h3 => kx E u.1 u.2 hB.1 H1 locs1 ls ce q9 (by rw [← ht]; exact hB.2) hS1 hl h1 h2 h3) (fun r u t H1 locs1 ht hvm hpost hB hz hk1 hS1 => kk r u.1 u.2 hpost H1 locs1 ls (by rw [← ht]; exact hB) hS1 hl)
theorem q_callVl (C : q_C σ p s m args c cc nL own Ts) {post : Int64 → q_V → q_G → Prop} {k ci : Nat} {q : vw_C} {fs : List Value} (hk : k < 90) (he : q_en σ k (V k) (G k) = .inr (ci, fs)) (hc : vwCl[ci]? = some q) (hq : q.1 = y.cls) (hM : q_Ml l y ws rm σ (.ref (σ.2.1 k) :: As) V G post mc ms) (n : Nat) (hG : GoodIn Ts (wsV own index y.cls y ws)) (hw : ws = Cond.code y bytes maxL ret :: ws') (hrc : rm.cells = mc) (hrs : rm.slots = ms) (hy : y.cls ≠ "java/lang/invoke/MethodHandle" ∧ y.cls ≠ "java/lang/invoke/VarHandle" ∧ (parseMethodDescriptor y.desc).map (fun d => d.parameters.length) = some n) (hR : rm.frames + 1 ≤ R.frames ∧ 8 + (maxL + 11) + rm.locals ≤ R.locals) (hd : decode cc pc = .ok (.invokevirtual index, 3)) (hn : As.length = n) (hroom : (rest.map fun v => v.category).sum ≤ 8) (hf : cells + mc ≤ R.cells ∧ slots + ms ≤ R.slots) (kk : ∀ (r : Int64) (V' : q_V) (G' : q_G), post r V' G' → q_W σ p l e R s m args below meth c Q nL (cells + mc) (slots + ms) V' G' lv (pc + 3) (.long r :: rest)) : q_W σ p l e R s m args below meth c Q nL cells slots V G lv pc (As.reverse ++ .ref (σ.2.1 k) :: rest) := q_gol (fun H locs ls hP hS hl => q_runV C hk he hc hq hP hS hl (hM H.size) n hG hw hrc hrs hy hR hd hn hroom hf) kk
theorem q_xcallVl (C : q_C σ p s m args c cc nL own Ts) {post : Int64 → q_V → q_G → Prop} {px : String → q_V → q_G → Prop} {k ci : Nat} {q : vw_C} {fs : List Value} (hk : k < 90) (he : q_en σ k (V k) (G k) = .inr (ci, fs)) (hc : vwCl[ci]? = some q) (hq : q.1 = y.cls) (hM : q_Xl l y ws rm σ (.ref (σ.2.1 k) :: As) V G post px mc ms) (n : Nat) (hG : GoodIn Ts (wsV own index y.cls y ws)) (hw : ws = Cond.code y bytes maxL ret :: ws') (hrc : rm.cells = mc) (hrs : rm.slots = ms) (hy : y.cls ≠ "java/lang/invoke/MethodHandle" ∧ y.cls ≠ "java/lang/invoke/VarHandle" ∧ (parseMethodDescriptor y.desc).map (fun d => d.parameters.length) = some n) (hR : rm.frames + 1 ≤ R.frames ∧ 8 + (maxL + 11) + rm.locals ≤ R.locals) (hd : decode cc pc = .ok (.invokevirtual index, 3)) (hn : As.length = n) (hroom : (rest.map fun v => v.category).sum ≤ 8) (hf : cells + mc ≤ R.cells ∧ slots + ms ≤ R.slots) (kx : ∀ (E : String) (V' : q_V) (G' : q_G), px E V' G' → q_X σ p l e R s m args below meth c Q nL (cells + mc) (slots + ms) E V' G' lv pc rest) (kk : ∀ (r : Int64) (V' : q_V) (G' : q_G), post r V' G' → q_W σ p l e R s m args below meth c Q nL (cells + mc) (slots + ms) V' G' lv (pc + 3) (.long r :: rest)) : q_W σ p l e R s m args below meth c Q nL cells slots V G lv pc (As.reverse ++ .ref (σ.2.1 k) :: rest) := q_xgol (fun H locs ls hP hS hl => q_xrunV C hk he hc hq hP hS hl (hM H.size) n hG hw hrc hrs hy hR hd hn hroom hf) kx kk
theorem q_callSl (C : q_C σ p s m args c cc nL own Ts) {post : Int64 → q_V → q_G → Prop}  (hM : q_Ml l y ws rm σ (As) V G post mc ms) (n : Nat) (hG : GoodIn Ts (va_wsS own index y ws)) (hw : ws = Cond.code y bytes maxL ret :: ws') (hrc : rm.cells = mc) (hrs : rm.slots = ms) (hy : y.cls ≠ "java/lang/invoke/MethodHandle" ∧ y.cls ≠ "java/lang/invoke/VarHandle" ∧ (parseMethodDescriptor y.desc).map (fun d => d.parameters.length) = some n) (hR : rm.frames + 1 ≤ R.frames ∧ 8 + (maxL + 11) + rm.locals ≤ R.locals) (hd : decode cc pc = .ok (.invokestatic index, 3)) (hn : As.length = n) (hroom : (rest.map fun v => v.category).sum ≤ 8) (hf : cells + mc ≤ R.cells ∧ slots + ms ≤ R.slots) (kk : ∀ (r : Int64) (V' : q_V) (G' : q_G), post r V' G' → q_W σ p l e R s m args below meth c Q nL (cells + mc) (slots + ms) V' G' lv (pc + 3) (.long r :: rest)) : q_W σ p l e R s m args below meth c Q nL cells slots V G lv pc (As.reverse ++ rest) := q_gol (fun H locs ls hP hS hl => q_runS C  hP hS hl (hM H.size) n hG hw hrc hrs hy hR hd hn hroom hf) kk
theorem q_xcallSl (C : q_C σ p s m args c cc nL own Ts) {post : Int64 → q_V → q_G → Prop} {px : String → q_V → q_G → Prop}  (hM : q_Xl l y ws rm σ (As) V G post px mc ms) (n : Nat) (hG : GoodIn Ts (va_wsS own index y ws)) (hw : ws = Cond.code y bytes maxL ret :: ws') (hrc : rm.cells = mc) (hrs : rm.slots = ms) (hy : y.cls ≠ "java/lang/invoke/MethodHandle" ∧ y.cls ≠ "java/lang/invoke/VarHandle" ∧ (parseMethodDescriptor y.desc).map (fun d => d.parameters.length) = some n) (hR : rm.frames + 1 ≤ R.frames ∧ 8 + (maxL + 11) + rm.locals ≤ R.locals) (hd : decode cc pc = .ok (.invokestatic index, 3)) (hn : As.length = n) (hroom : (rest.map fun v => v.category).sum ≤ 8) (hf : cells + mc ≤ R.cells ∧ slots + ms ≤ R.slots) (kx : ∀ (E : String) (V' : q_V) (G' : q_G), px E V' G' → q_X σ p l e R s m args below meth c Q nL (cells + mc) (slots + ms) E V' G' lv pc rest) (kk : ∀ (r : Int64) (V' : q_V) (G' : q_G), post r V' G' → q_W σ p l e R s m args below meth c Q nL (cells + mc) (slots + ms) V' G' lv (pc + 3) (.long r :: rest)) : q_W σ p l e R s m args below meth c Q nL cells slots V G lv pc (As.reverse ++ rest) := q_xgol (fun H locs ls hP hS hl => q_xrunS C  hP hS hl (hM H.size) n hG hw hrc hrs hy hR hd hn hroom hf) kx kk
theorem q_callNl (C : q_C σ p s m args c cc nL own Ts) {post : Int64 → q_V → q_G → Prop} {k ci : Nat} {q : vw_C} {fs : List Value} (hk : k < 90) (he : q_en σ k (V k) (G k) = .inr (ci, fs)) (hc : vwCl[ci]? = some q) (hq : q.1 = y.cls) (hM : q_Ml l y ws rm σ (.ref (σ.2.1 k) :: As) V G post mc ms) {host : String} (n : Nat) (hG : GoodIn Ts ws) (hw : ws = Cond.code y bytes maxL ret :: ws') (hrc : rm.cells = mc) (hrs : rm.slots = ms) (hnw : Cond.methodLinkNest own index y host ∈ q_nw) (hin1 : Cond.instanceMethod y ∈ Ts) (hin2 : Cond.selects y.cls y y ∈ Ts) (hin3 : Cond.initialized y.cls ∈ Ts) (hy : y.cls ≠ "java/lang/invoke/MethodHandle" ∧ y.cls ≠ "java/lang/invoke/VarHandle" ∧ (parseMethodDescriptor y.desc).map (fun d => d.parameters.length) = some n) (hR : rm.frames + 1 ≤ R.frames ∧ 8 + (maxL + 11) + rm.locals ≤ R.locals) (hd : decode cc pc = .ok (.invokevirtual index, 3)) (hn : As.length = n) (hroom : (rest.map fun v => v.category).sum ≤ 8) (hf : cells + mc ≤ R.cells ∧ slots + ms ≤ R.slots) (kk : ∀ (r : Int64) (V' : q_V) (G' : q_G), post r V' G' → q_W σ p l e R s m args below meth c Q nL (cells + mc) (slots + ms) V' G' lv (pc + 3) (.long r :: rest)) : q_W σ p l e R s m args below meth c Q nL cells slots V G lv pc (As.reverse ++ .ref (σ.2.1 k) :: rest) := q_gol (fun H locs ls hP hS hl => q_runN C hk he hc hq hP hS hl (hM H.size) n hG hw hrc hrs hnw hin1 hin2 hin3 hy hR hd hn hroom hf) kk
theorem q_gov {post : q_V → q_G → Prop} {st : List Value} (hr : ∀ (H : Heap) (locs : List Loc) (ls : Array Slot), va_P σ.1 vwCl (q_ws σ V G) H → va_S (q_A σ s.heap.size) s.heap H locs → lv_has ls nL lv → va_Run p l e R s m args below meth c H locs cells slots mc ms (F0 m pc ls st) rest (va_Qv (fun (u : q_V × q_G) => post u.1 u.2) (q_B σ) (q_A σ H.size) a) (q_A σ H.size)) (kk : ∀ (V' : q_V) (G' : q_G), post V' G' → q_W σ p l e R s m args below meth c Q nL (cells + mc) (slots + ms) V' G' lv (pc + 3) rest) : q_W σ p l e R s m args below meth c Q nL cells slots V G lv pc st := fun H locs ls hP hS hl => va_callv (hr H locs ls hP hS hl) hS (fun q _ h => q_A_mono hS.1 h) (fun q h => q_A_mono hS.1 h) (fun u t H1 locs1 ht hvm hpost hB hz hk1 hS1 => kk u.1 u.2 hpost H1 locs1 ls (by rw [← ht]; exact hB) hS1 hl)
theorem q_xgov {post : q_V → q_G → Prop} {px : String → q_V → q_G → Prop} {st : List Value} (hr : ∀ (H : Heap) (locs : List Loc) (ls : Array Slot), va_P σ.1 vwCl (q_ws σ V G) H → va_S (q_A σ s.heap.size) s.heap H locs → lv_has ls nL lv → vx_Run p l e R s m args below meth c H locs cells slots mc ms (F0 m pc ls st) rest (va_Qv (fun (u : q_V × q_G) => post u.1 u.2) (q_B σ) (q_A σ H.size) a) (vx_X (fun _ => True) (q_BX σ px) (q_A σ H.size)) (q_A σ H.size)) (kx : ∀ (E : String) (V' : q_V) (G' : q_G), px E V' G' → q_X σ p l e R s m args below meth c Q nL (cells + mc) (slots + ms) E V' G' lv pc rest) (kk : ∀ (V' : q_V) (G' : q_G), post V' G' → q_W σ p l e R s m args below meth c Q nL (cells + mc) (slots + ms) V' G' lv (pc + 3) rest) : q_W σ p l e R s m args below meth c Q nL cells slots V G lv pc st := fun H locs ls hP hS hl => vx_callv (hr H locs ls hP hS hl) hS (fun q _ h => q_A_mono hS.1 h) (fun q h => q_A_mono hS.1 h) (fun q _ h => q_A_mono hS.1 h) (fun E ce q9 u t H1 locs1 ht hvm _ hB hz hk1 hS1 h1 h2 h3 => kx E u.1 u.2 hB.1 H1 locs1 ls ce q9 (by rw [← ht]; exact hB.2) hS1 hl h1 h2 h3) (fun u t H1 locs1 ht hvm hpost hB hz hk1 hS1 => kk u.1 u.2 hpost H1 locs1 ls (by rw [← ht]; exact hB) hS1 hl)
theorem q_callVv (C : q_C σ p s m args c cc nL own Ts) {post : q_V → q_G → Prop} {k ci : Nat} {q : vw_C} {fs : List Value} (hk : k < 90) (he : q_en σ k (V k) (G k) = .inr (ci, fs)) (hc : vwCl[ci]? = some q) (hq : q.1 = y.cls) (hM : q_Mv l y ws rm σ (.ref (σ.2.1 k) :: As) V G post mc ms) (n : Nat) (hG : GoodIn Ts (wsV own index y.cls y ws)) (hw : ws = Cond.code y bytes maxL ret :: ws') (hrc : rm.cells = mc) (hrs : rm.slots = ms) (hy : y.cls ≠ "java/lang/invoke/MethodHandle" ∧ y.cls ≠ "java/lang/invoke/VarHandle" ∧ (parseMethodDescriptor y.desc).map (fun d => d.parameters.length) = some n) (hR : rm.frames + 1 ≤ R.frames ∧ 8 + (maxL + 11) + rm.locals ≤ R.locals) (hd : decode cc pc = .ok (.invokevirtual index, 3)) (hn : As.length = n) (hroom : (rest.map fun v => v.category).sum ≤ 8) (hf : cells + mc ≤ R.cells ∧ slots + ms ≤ R.slots) (kk : ∀ (V' : q_V) (G' : q_G), post V' G' → q_W σ p l e R s m args below meth c Q nL (cells + mc) (slots + ms) V' G' lv (pc + 3) rest) : q_W σ p l e R s m args below meth c Q nL cells slots V G lv pc (As.reverse ++ .ref (σ.2.1 k) :: rest) := q_gov (fun H locs ls hP hS hl => q_runV C hk he hc hq hP hS hl (hM H.size) n hG hw hrc hrs hy hR hd hn hroom hf) kk
theorem q_xcallVv (C : q_C σ p s m args c cc nL own Ts) {post : q_V → q_G → Prop} {px : String → q_V → q_G → Prop} {k ci : Nat} {q : vw_C} {fs : List Value} (hk : k < 90) (he : q_en σ k (V k) (G k) = .inr (ci, fs)) (hc : vwCl[ci]? = some q) (hq : q.1 = y.cls) (hM : q_Xv l y ws rm σ (.ref (σ.2.1 k) :: As) V G post px mc ms) (n : Nat) (hG : GoodIn Ts (wsV own index y.cls y ws)) (hw : ws = Cond.code y bytes maxL ret :: ws') (hrc : rm.cells = mc) (hrs : rm.slots = ms) (hy : y.cls ≠ "java/lang/invoke/MethodHandle" ∧ y.cls ≠ "java/lang/invoke/VarHandle" ∧ (parseMethodDescriptor y.desc).map (fun d => d.parameters.length) = some n) (hR : rm.frames + 1 ≤ R.frames ∧ 8 + (maxL + 11) + rm.locals ≤ R.locals) (hd : decode cc pc = .ok (.invokevirtual index, 3)) (hn : As.length = n) (hroom : (rest.map fun v => v.category).sum ≤ 8) (hf : cells + mc ≤ R.cells ∧ slots + ms ≤ R.slots) (kx : ∀ (E : String) (V' : q_V) (G' : q_G), px E V' G' → q_X σ p l e R s m args below meth c Q nL (cells + mc) (slots + ms) E V' G' lv pc rest) (kk : ∀ (V' : q_V) (G' : q_G), post V' G' → q_W σ p l e R s m args below meth c Q nL (cells + mc) (slots + ms) V' G' lv (pc + 3) rest) : q_W σ p l e R s m args below meth c Q nL cells slots V G lv pc (As.reverse ++ .ref (σ.2.1 k) :: rest) := q_xgov (fun H locs ls hP hS hl => q_xrunV C hk he hc hq hP hS hl (hM H.size) n hG hw hrc hrs hy hR hd hn hroom hf) kx kk
theorem q_callSv (C : q_C σ p s m args c cc nL own Ts) {post : q_V → q_G → Prop}  (hM : q_Mv l y ws rm σ (As) V G post mc ms) (n : Nat) (hG : GoodIn Ts (va_wsS own index y ws)) (hw : ws = Cond.code y bytes maxL ret :: ws') (hrc : rm.cells = mc) (hrs : rm.slots = ms) (hy : y.cls ≠ "java/lang/invoke/MethodHandle" ∧ y.cls ≠ "java/lang/invoke/VarHandle" ∧ (parseMethodDescriptor y.desc).map (fun d => d.parameters.length) = some n) (hR : rm.frames + 1 ≤ R.frames ∧ 8 + (maxL + 11) + rm.locals ≤ R.locals) (hd : decode cc pc = .ok (.invokestatic index, 3)) (hn : As.length = n) (hroom : (rest.map fun v => v.category).sum ≤ 8) (hf : cells + mc ≤ R.cells ∧ slots + ms ≤ R.slots) (kk : ∀ (V' : q_V) (G' : q_G), post V' G' → q_W σ p l e R s m args below meth c Q nL (cells + mc) (slots + ms) V' G' lv (pc + 3) rest) : q_W σ p l e R s m args below meth c Q nL cells slots V G lv pc (As.reverse ++ rest) := q_gov (fun H locs ls hP hS hl => q_runS C  hP hS hl (hM H.size) n hG hw hrc hrs hy hR hd hn hroom hf) kk
theorem q_xcallSv (C : q_C σ p s m args c cc nL own Ts) {post : q_V → q_G → Prop} {px : String → q_V → q_G → Prop}  (hM : q_Xv l y ws rm σ (As) V G post px mc ms) (n : Nat) (hG : GoodIn Ts (va_wsS own index y ws)) (hw : ws = Cond.code y bytes maxL ret :: ws') (hrc : rm.cells = mc) (hrs : rm.slots = ms) (hy : y.cls ≠ "java/lang/invoke/MethodHandle" ∧ y.cls ≠ "java/lang/invoke/VarHandle" ∧ (parseMethodDescriptor y.desc).map (fun d => d.parameters.length) = some n) (hR : rm.frames + 1 ≤ R.frames ∧ 8 + (maxL + 11) + rm.locals ≤ R.locals) (hd : decode cc pc = .ok (.invokestatic index, 3)) (hn : As.length = n) (hroom : (rest.map fun v => v.category).sum ≤ 8) (hf : cells + mc ≤ R.cells ∧ slots + ms ≤ R.slots) (kx : ∀ (E : String) (V' : q_V) (G' : q_G), px E V' G' → q_X σ p l e R s m args below meth c Q nL (cells + mc) (slots + ms) E V' G' lv pc rest) (kk : ∀ (V' : q_V) (G' : q_G), post V' G' → q_W σ p l e R s m args below meth c Q nL (cells + mc) (slots + ms) V' G' lv (pc + 3) rest) : q_W σ p l e R s m args below meth c Q nL cells slots V G lv pc (As.reverse ++ rest) := q_xgov (fun H locs ls hP hS hl => q_xrunS C  hP hS hl (hM H.size) n hG hw hrc hrs hy hR hd hn hroom hf) kx kk
theorem q_callNv (C : q_C σ p s m args c cc nL own Ts) {post : q_V → q_G → Prop} {k ci : Nat} {q : vw_C} {fs : List Value} (hk : k < 90) (he : q_en σ k (V k) (G k) = .inr (ci, fs)) (hc : vwCl[ci]? = some q) (hq : q.1 = y.cls) (hM : q_Mv l y ws rm σ (.ref (σ.2.1 k) :: As) V G post mc ms) {host : String} (n : Nat) (hG : GoodIn Ts ws) (hw : ws = Cond.code y bytes maxL ret :: ws') (hrc : rm.cells = mc) (hrs : rm.slots = ms) (hnw : Cond.methodLinkNest own index y host ∈ q_nw) (hin1 : Cond.instanceMethod y ∈ Ts) (hin2 : Cond.selects y.cls y y ∈ Ts) (hin3 : Cond.initialized y.cls ∈ Ts) (hy : y.cls ≠ "java/lang/invoke/MethodHandle" ∧ y.cls ≠ "java/lang/invoke/VarHandle" ∧ (parseMethodDescriptor y.desc).map (fun d => d.parameters.length) = some n) (hR : rm.frames + 1 ≤ R.frames ∧ 8 + (maxL + 11) + rm.locals ≤ R.locals) (hd : decode cc pc = .ok (.invokevirtual index, 3)) (hn : As.length = n) (hroom : (rest.map fun v => v.category).sum ≤ 8) (hf : cells + mc ≤ R.cells ∧ slots + ms ≤ R.slots) (kk : ∀ (V' : q_V) (G' : q_G), post V' G' → q_W σ p l e R s m args below meth c Q nL (cells + mc) (slots + ms) V' G' lv (pc + 3) rest) : q_W σ p l e R s m args below meth c Q nL cells slots V G lv pc (As.reverse ++ .ref (σ.2.1 k) :: rest) := q_gov (fun H locs ls hP hS hl => q_runN C hk he hc hq hP hS hl (hM H.size) n hG hw hrc hrs hnw hin1 hin2 hin3 hy hR hd hn hroom hf) kk
theorem q_throw (C : q_C σ p s m args c cc nL own Ts) {px : String → q_V → q_G → Prop} {st : List Value} {ik is ic : Nat} (cls text : String) (T : q_T σ s args below meth c Q px mc ms) (hlf : l.stackTraces = false) (hown : own = RX2)
    (hcls : Bundle.fit cls = true) (hk : Cond.classLink own ik cls ∈ Ts) (hini : Cond.initialized cls ∈ Ts) (hstr : (is, text) ∈ q_st) (hat : ∀ w ∈ vx_atS own ic cls ["java/lang/RuntimeException", "java/lang/Exception"], goodWord w = true → w ∈ Ts) (hgood : ∀ w ∈ Cond.classLink own ik cls :: Cond.initialized cls :: vx_atS own ic cls ["java/lang/RuntimeException", "java/lang/Exception"], goodWord w = true)
    (d0 : decode cc pc = .ok (.new ik, 3)) (d3 : decode cc (pc + 3) = .ok (.dup, 1)) (d4 : decode cc (pc + 4) = .ok (.ldc is, 2)) (d6 : decode cc (pc + 6) = .ok (.invokespecial ic, 3)) (d9 : decode cc (pc + 9) = .ok (.athrow, 1))
    (hRf : 5 < R.frames) (hRl : (st.map fun v => v.category).sum + 82 ≤ R.locals) (hRc : cells + 1 ≤ R.cells) (hRs : slots + 6 ≤ R.slots) (hc : cells + 1 ≤ mc) (hs : slots + 6 ≤ ms) (hpx : px cls V G) : q_W σ p l e R s m args below meth c Q nL cells slots V G lv pc st := fun H locs ls hP hS hl => by
  obtain ⟨htb1, htb2, post, hQ⟩ := T
  subst hQ
  obtain ⟨sa, hsa⟩ := C.2.2.2.2.2.2.2.2.1 _ hstr
  have hZ := C.2.2.2.2.2.2.2.2.2
  refine vx_throwS (A := q_A σ s.heap.size) (names := ["java/lang/RuntimeException", "java/lang/Exception"]) (sa := sa) (text := text) C.1 C.2.1 hlf C.2.2.2.1 hcls (by decide +kernel) (C.2.2.2.2.1 _ hk) (C.2.2.2.2.1 _ hini) (by rw [hown]; exact hsa) (fun w hw => C.2.2.2.2.1 _ (hat w hw (hgood w (List.mem_cons_of_mem _ (List.mem_cons_of_mem _ hw))))) (fun w hw => by have := hgood w hw; simp [vx_ot, this]) hZ.1 hZ.2 hS (by rw [hl.1, C.2.2.1]) d0 d3 d4 d6 d9 (fun x hx => (htb1 x hx).elim) hRf hRl hRc hRs htb2 (fun t hvm hz hk9 => ?_) hS.2.2 hc hs
  refine ⟨(V, G), trivial, ⟨hpx, ?_⟩, ?_⟩
  · exact hP.kept (fun k q hq => hk9 q.1 (hP k q hq).lt)
  · exact ⟨Nat.le_trans hS.1 hz, fun q h1 h2 => by rw [hk9 q (Nat.lt_of_lt_of_le h1 hS.1)]; exact hS.2.1 q h1 h2⟩
end QCALLS
end
section
/-- x is one of the first n numbers -/
def q_ok (n : Nat) (x : Int32) : Prop := ∃ j, j < n ∧ x = nI j
theorem q_ok_nI {n j : Nat} (h : j < n) : q_ok n (nI j) := ⟨j, h, rfl⟩
theorem q_ok_of {n : Nat} {x : Int32} (h1 : ¬ x < 0) (h2 : x < nI n) (hn : n < 2 ^ 31) : q_ok n x := by
  rcases pk_ix x hn with h | h | ⟨j, h, e⟩
  · exact absurd h h1
  · exact absurd h2 (Int32.not_lt.mpr h)
  · exact ⟨j, h, e⟩
theorem q_ok_of2 {n : Nat} {x : Int32} (h1 : ¬ x < 0) (h2 : ¬ nI n ≤ x) (hn : n < 2 ^ 31) : q_ok n x := q_ok_of h1 (Int32.not_le.mp h2) hn
theorem q_ok_neg {n : Nat} {x : Int32} (h : x < 0) (hn : n < 2 ^ 31) : ¬ q_ok n x := by
  rintro ⟨j, hj, rfl⟩
  exact nI_pos (by omega) h
theorem q_ok_ge {n : Nat} {x : Int32} (h : ¬ x < nI n) (hn : n < 2 ^ 31) : ¬ q_ok n x := by
  rintro ⟨j, hj, rfl⟩
  exact h (nI_lt hj hn)
theorem q_ok_ge2 {n : Nat} {x : Int32} (h : nI n ≤ x) (hn : n < 2 ^ 31) : ¬ q_ok n x := q_ok_ge (Int32.not_lt.mpr h) hn
theorem q_nI_inj {a b : Nat} (h : nI a = nI b) (ha : a < 2 ^ 31) (hb : b < 2 ^ 31) : a = b := (nI_eq ha hb).mp h
theorem q_ix {r c w h : Nat} (hr : r < h) (hc : c < w) : r * w + c < w * h := by
  have h1 : (r + 1) * w ≤ h * w := Nat.mul_le_mul_right w hr
  rw [Nat.add_mul, Nat.mul_comm h w] at h1
  omega
/-- a grid's sides -/
def q_gok (V : q_V) (i w h : Nat) : Prop := V (27 + i) 1 = nI w ∧ V (27 + i) 2 = nI h ∧ 1 ≤ w ∧ w ≤ 8 ∧ 1 ≤ h ∧ h ≤ 6
theorem q_gwh {V : q_V} {i w h : Nat} (g : q_gok V i w h) : w * h ≤ 48 := Nat.mul_le_mul g.2.2.2.1 g.2.2.2.2.2
theorem q_gone {V : q_V} {i w h w2 h2 : Nat} (g : q_gok V i w h) (g2 : q_gok V i w2 h2) : w = w2 ∧ h = h2 := by
  obtain ⟨a1, a2, a3, a4, a5, a6⟩ := g
  obtain ⟨b1, b2, b3, b4, b5, b6⟩ := g2
  exact ⟨q_nI_inj (a1.symm.trans b1) (by omega) (by omega), q_nI_inj (a2.symm.trans b2) (by omega) (by omega)⟩
/-- how many of the first n have p -/
noncomputable def q_ct (p : Nat → Prop) : Nat → Nat
  | 0 => 0
  | n + 1 => q_ct p n + @ite Nat (p n) (Classical.propDecidable _) 1 0
theorem q_ct_y {p : Nat → Prop} {n : Nat} (h : p n) : q_ct p (n + 1) = q_ct p n + 1 := by
  show q_ct p n + _ = _
  rw [if_pos h]
theorem q_ct_n {p : Nat → Prop} {n : Nat} (h : ¬ p n) : q_ct p (n + 1) = q_ct p n := by
  show q_ct p n + _ = _
  rw [if_neg h, Nat.add_zero]
theorem q_ct_congr {p q : Nat → Prop} : ∀ {n : Nat}, (∀ k, k < n → (p k ↔ q k)) → q_ct p n = q_ct q n
  | 0, _ => rfl
  | n + 1, h => by
    have ih := q_ct_congr (n := n) (fun k hk => h k (Nat.lt_succ_of_lt hk))
    by_cases hp : p n
    · rw [q_ct_y hp, q_ct_y ((h n (Nat.lt_succ_self n)).mp hp), ih]
    · rw [q_ct_n hp, q_ct_n (fun z => hp ((h n (Nat.lt_succ_self n)).mpr z)), ih]
theorem q_ct_le (p : Nat → Prop) : ∀ n, q_ct p n ≤ n
  | 0 => Nat.le_refl 0
  | n + 1 => by
    have ih := q_ct_le p n
    by_cases hp : p n
    · rw [q_ct_y hp]; omega
    · rw [q_ct_n hp]; omega
def q_fill (V : q_V) (k : Nat) (x : Int32) (n : Nat) : q_V := fun a b => if a = k ∧ b < n then x else V a b
theorem q_fill_0 (V : q_V) (k : Nat) (x : Int32) : q_fill V k x 0 = V := by
  funext a b
  simp [q_fill]
theorem q_fill_succ (V : q_V) (k : Nat) (x : Int32) (n : Nat) : q_up (q_fill V k x n) k n x = q_fill V k x (n + 1) := by
  funext a b
  by_cases ha : a = k
  · by_cases hb : b = n
    · simp [q_up, q_fill, ha, hb]
    · by_cases hb2 : b < n
      · simp [q_up, q_fill, ha, hb, hb2, Nat.lt_succ_of_lt hb2]
      · simp [q_up, q_fill, ha, hb, hb2, show ¬ b < n + 1 by omega]
  · simp [q_up, q_fill, ha]
/-- the first n cells of k1 come over those of k2 -/
def q_cpy (V : q_V) (k1 k2 n : Nat) : q_V := fun a b => if a = k2 ∧ b < n then V k1 b else V a b
def q_bi (b : Bool) : Int32 := if b then 1 else 0
theorem q_bi_t : q_bi true = 1 := rfl
theorem q_bi_f : q_bi false = 0 := rfl
theorem q_bi_nar (b : Bool) : narrow .boolean (.int (q_bi b)) = .int (q_bi b) := by cases b <;> rfl
theorem q_bi_eq0 (b : Bool) : q_bi b = 0 ↔ b = false := by cases b <;> simp [q_bi]
theorem q_bi_ne0 (b : Bool) : ¬ q_bi b = 0 ↔ b = true := by cases b <;> simp [q_bi]
/-- the answer of a question -/
def q_is (P : Prop) (r : Int32) : Prop := (P ∧ r = 1) ∨ (¬ P ∧ r = 0)
theorem q_is_y {P : Prop} (h : P) : q_is P 1 := Or.inl ⟨h, rfl⟩
theorem q_is_n {P : Prop} (h : ¬ P) : q_is P 0 := Or.inr ⟨h, rfl⟩
theorem q_is_eq {P : Prop} {r : Int32} (h : q_is P r) : r = 0 ↔ ¬ P := by
  rcases h with ⟨h, rfl⟩ | ⟨h, rfl⟩
  · simp [h]
  · simp [h]
theorem q_is_ne {P : Prop} {r : Int32} (h : q_is P r) : ¬ r = 0 ↔ P := by
  rcases h with ⟨h, rfl⟩ | ⟨h, rfl⟩
  · simp [h]
  · simp [h]
theorem q_is_nar {P : Prop} {r : Int32} (h : q_is P r) : narrow .boolean (.int r) = .int r := by
  rcases h with ⟨h, rfl⟩ | ⟨h, rfl⟩ <;> rfl
theorem q_is_iff {P P' : Prop} {r : Int32} (h : q_is P r) (e : P ↔ P') : q_is P' r := by
  rcases h with ⟨h, rfl⟩ | ⟨h, rfl⟩
  · exact Or.inl ⟨e.mp h, rfl⟩
  · exact Or.inr ⟨fun z => h (e.mpr z), rfl⟩
abbrev xI : String := "java/lang/IndexOutOfBoundsException"
abbrev xA : String := "java/lang/IllegalArgumentException"
abbrev xS : String := "java/lang/IllegalStateException"
def q_src (k w h c r : Nat) : Nat × Nat :=
  let q : Nat × Nat := if k % 4 = 1 then (r, h - 1 - c) else if k % 4 = 2 then (w - 1 - c, h - 1 - r) else if k % 4 = 3 then (w - 1 - r, c) else (c, r)
  if 4 ≤ k then (w - 1 - q.1, q.2) else q
def q_ow (k w h : Nat) : Nat := if k % 2 = 1 then h else w
def q_oh (k w h : Nat) : Nat := if k % 2 = 1 then w else h
theorem q_src_in {k w h c r : Nat} (hc : c < q_ow k w h) (hr : r < q_oh k w h) : (q_src k w h c r).1 < w ∧ (q_src k w h c r).2 < h := by
  unfold q_ow at hc
  unfold q_oh at hr
  have hk : k % 4 = 0 ∨ k % 4 = 1 ∨ k % 4 = 2 ∨ k % 4 = 3 := by omega
  rcases hk with e | e | e | e
  · rw [if_neg (by omega)] at hc hr
    by_cases h4 : 4 ≤ k <;> simp [q_src, e, h4] <;> omega
  · rw [if_pos (by omega)] at hc hr
    by_cases h4 : 4 ≤ k <;> simp [q_src, e, h4] <;> omega
  · rw [if_neg (by omega)] at hc hr
    by_cases h4 : 4 ≤ k <;> simp [q_src, e, h4] <;> omega
  · rw [if_pos (by omega)] at hc hr
    by_cases h4 : 4 ≤ k <;> simp [q_src, e, h4] <;> omega
theorem q_and3 {k : Nat} (hk : k < 8) : nI k &&& 3 = nI (k % 4) := by
  have : ∀ k, k < 8 → nI k &&& 3 = nI (k % 4) := by decide +kernel
  exact this k hk
theorem q_and1 {k : Nat} (hk : k < 8) : nI k &&& 1 = nI (k % 2) := by
  have : ∀ k, k < 8 → nI k &&& 1 = nI (k % 2) := by decide +kernel
  exact this k hk
theorem q_and4 {k : Nat} (hk : k < 8) : nI k &&& 4 = nI (if 4 ≤ k then 4 else 0) := by
  have : ∀ k, k < 8 → nI k &&& 4 = nI (if 4 ≤ k then 4 else 0) := by decide +kernel
  exact this k hk
section QMORE
variable {σ : q_E} {p : Program} {l : Launch} {e : Env} {R : Room} {s : State} {m : MethodId} {args : Array Value} {below : List Frame} {meth : Method} {c : Code} {Q : State → Prop} {nL cells slots : Nat} {V : q_V} {G : q_G} {lv : List (Nat × Value)} {pc : Nat} {st : List Value} {cc : ByteArray} {own : String} {Ts : List Cond}
theorem q_tableIn (C : q_C σ p s m args c cc nL own Ts) {dflt lo hi : Int} {offs : Array Int} {len : Nat} {x : Int32} {off : Int} (tgt : Nat) (hd : decode cc pc = .ok (.tableswitch dflt lo hi offs, len)) (h1 : ¬ x.toInt < lo) (h2 : ¬ hi < x.toInt) (ho : offs[(x.toInt - lo).toNat]? = some off) (ht : (pc : Int) + off = (tgt : Int)) (kk : q_W σ p l e R s m args below meth c Q nL cells slots V G lv tgt st) : q_W σ p l e R s m args below meth c Q nL cells slots V G lv pc (.int x :: st) := fun H locs ls hP hS hl => lv_tableIn C.1 C.2.1 hd h1 h2 ho ht (kk H locs ls hP hS hl)
theorem q_tableOut (C : q_C σ p s m args c cc nL own Ts) {dflt lo hi : Int} {offs : Array Int} {len : Nat} {x : Int32} (tgt : Nat) (hd : decode cc pc = .ok (.tableswitch dflt lo hi offs, len)) (h : x.toInt < lo ∨ hi < x.toInt) (ht : (pc : Int) + dflt = (tgt : Int)) (kk : q_W σ p l e R s m args below meth c Q nL cells slots V G lv tgt st) : q_W σ p l e R s m args below meth c Q nL cells slots V G lv pc (.int x :: st) := fun H locs ls hP hS hl => lv_tableOut C.1 C.2.1 hd h ht (kk H locs ls hP hS hl)
theorem q_copyI (C : q_C σ p s m args c cc nL own Ts) {k1 k2 n1 n2 n index : Nat} (hk1 : q_isI k1 n1) (hk2 : q_isI k2 n2) (h1 : n ≤ n1) (h2 : n ≤ n2) (hn : n < 2 ^ 31) (w1 : Cond.methodLink own index arraycopyName ∈ Ts) (w2 : Cond.native arraycopyName ∈ Ts) (w3 : Cond.static arraycopyName ∈ Ts) (w4 : Cond.initialized "java/lang/System" ∈ Ts) (hf : 1 ≤ R.frames) (hl9 : (st.map fun v => v.category).sum + (nativeFrameWords "java/lang/System" "arraycopy" 5 + 11) ≤ R.locals) (hd : decode cc pc = .ok (.invokestatic index, 3)) (kk : q_W σ p l e R s m args below meth c Q nL cells slots (q_cpy V k1 k2 n) G lv (pc + 3) st) : q_W σ p l e R s m args below meth c Q nL cells slots V G lv pc (.int (nI n) :: .int (nI 0) :: .ref (σ.2.1 k2) :: .int (nI 0) :: .ref (σ.2.1 k1) :: st) := fun H locs ls hP hS hl => by
  have hW := C.2.2.2.2.1
  have e0 : (nI 0).toNatClampNeg = 0 := rfl
  have en : (nI n).toNatClampNeg = n := nI_clamp hn
  refine va_copyi C.1 C.2.1 (by rw [hl.1, C.2.2.1]) C.2.2.2.1 (hW _ w1) (hW _ w2) (hW _ w3) (hW _ w4) C.2.2.2.2.2.1 hP (q_D C.2.2.2.2.2.2.1) hS k1 k2 0 0 ((q_ws_at hk1.1).trans (by rw [q_en1 hk1.2.1, hk1.2.2])) ((q_ws_at hk2.1).trans (by rw [q_en1 hk2.2.1, hk2.2.2])) rfl rfl rfl (by decide) (by decide) (nI_pos hn) (by rw [e0, en]; omega) (by rw [e0, en]; omega) (fun _ _ => rfl) hf hl9 hd (fun H1 locs1 g1 _ g3 => ?_)
  rw [e0, en] at g1
  rw [q_ws_set (V' := q_cpy V k1 k2 n) (G' := G) (by
    rw [q_en1 hk2.2.1, hk2.2.2]
    congr 5
    funext b
    by_cases hb : b < n
    · simp [q_cpy, va_cpy, hb]
    · simp [q_cpy, va_cpy, hb]) (fun a ha => ⟨by funext b; simp [q_cpy, ha], rfl⟩)] at g1
  exact kk H1 locs1 ls g1 g3 hl
theorem q_max (C : q_C σ p s m args c cc nL own Ts) {x y : Int32} {index : Nat} (w1 : Cond.methodLink own index Lib.Math.max.name ∈ Ts) (w2 : Cond.static Lib.Math.max.name ∈ Ts) (w3 : Cond.initialized "java/lang/Math" ∈ Ts) (w4 : Cond.code Lib.Math.max.name Lib.Math.max.code 2 (some .int) ∈ Ts) (hf : 1 ≤ R.frames) (hl9 : (st.map fun v => v.category).sum + 13 ≤ R.locals) (hc : cells ≤ R.cells) (hs : slots ≤ R.slots) (hd : decode cc pc = .ok (.invokestatic index, 3)) (kk : q_W σ p l e R s m args below meth c Q nL cells slots V G lv (pc + 3) (.int (if x < y then y else x) :: st)) : q_W σ p l e R s m args below meth c Q nL cells slots V G lv pc (.int y :: .int x :: st) := fun H locs ls hP hS hl => by
  have hW := C.2.2.2.2.1
  exact va_mmax C.1 C.2.1 (by rw [hl.1, C.2.2.1]) C.2.2.2.1 (hW _ w1) (hW _ w2) (hW _ w3) (hW _ w4) hf hl9 hc hs hd (kk H locs ls hP hS hl)
end QMORE
/-- the image k of grid i is alike to grid j -/
def q_alike (V : q_V) (i w h k j ow oh : Nat) : Prop := ow = q_ow k w h ∧ oh = q_oh k w h ∧ ∀ r c, r < oh → c < ow → V (48 + i) ((q_src k w h c r).2 * w + (q_src k w h c r).1) = V (48 + j) (r * ow + c)
/-- the grid j (sw columns, sh rows) stands in grid i (w columns) at the column cn and the row rn -/
def q_shows (V : q_V) (i w j sw sh cn rn : Nat) : Prop := ∀ d t, d < sh → t < sw → V (48 + i) ((rn + d) * w + (cn + t)) = V (48 + j) (d * sw + t)
noncomputable def q_places (V : q_V) (i w h j sw sh : Nat) : Nat := fb_sm (fun r => q_ct (fun c => q_shows V i w j sw sh c r) (w + 1 - sw)) (h + 1 - sh)
end
section
section QIFN
variable {σ : q_E} {p : Program} {l : Launch} {e : Env} {R : Room} {s : State} {m : MethodId} {args : Array Value} {below : List Frame} {meth : Method} {c : Code} {Q : State → Prop} {nL cells slots : Nat} {V : q_V} {G : q_G} {lv : List (Nat × Value)} {pc : Nat} {st : List Value} {cc : ByteArray} {own : String} {Ts : List Cond}
theorem q_if_eqN (C : q_C σ p s m args c cc nL own Ts) {a : Nat} {off : Int} (tgt : Nat) (hd : decode cc pc = .ok (.ifCond .eq off, 3)) (ht : (pc : Int) + off = (tgt : Int)) (ha : a < 2 ^ 31) (kt : a = 0 → q_W σ p l e R s m args below meth c Q nL cells slots V G lv tgt st) (kf : a ≠ 0 → q_W σ p l e R s m args below meth c Q nL cells slots V G lv (pc + 3) st) : q_W σ p l e R s m args below meth c Q nL cells slots V G lv pc (.int (nI a) :: st) := q_if_eq C tgt hd ht (fun h => kt ((nI_eq ha (by decide)).mp h)) (fun h => kf (fun z => h (by rw [z]; rfl)))
theorem q_if_neN (C : q_C σ p s m args c cc nL own Ts) {a : Nat} {off : Int} (tgt : Nat) (hd : decode cc pc = .ok (.ifCond .ne off, 3)) (ht : (pc : Int) + off = (tgt : Int)) (ha : a < 2 ^ 31) (kt : a ≠ 0 → q_W σ p l e R s m args below meth c Q nL cells slots V G lv tgt st) (kf : a = 0 → q_W σ p l e R s m args below meth c Q nL cells slots V G lv (pc + 3) st) : q_W σ p l e R s m args below meth c Q nL cells slots V G lv pc (.int (nI a) :: st) := q_if_ne C tgt hd ht (fun h => kt (fun z => h (by rw [z]; rfl))) (fun h => kf ((nI_eq ha (by decide)).mp h))
theorem q_if_gtN (C : q_C σ p s m args c cc nL own Ts) {a : Nat} {off : Int} (tgt : Nat) (hd : decode cc pc = .ok (.ifCond .gt off, 3)) (ht : (pc : Int) + off = (tgt : Int)) (ha : a < 2 ^ 31) (kt : 0 < a → q_W σ p l e R s m args below meth c Q nL cells slots V G lv tgt st) (kf : a = 0 → q_W σ p l e R s m args below meth c Q nL cells slots V G lv (pc + 3) st) : q_W σ p l e R s m args below meth c Q nL cells slots V G lv pc (.int (nI a) :: st) := q_if_gt C tgt hd ht (fun h => kt ((nI_ltI (by decide) ha).mp h)) (fun h => kf (by have := Nat.not_lt.mp (fun z => h ((nI_ltI (a := 0) (by decide) ha).mpr z)); omega))
theorem q_if_leN (C : q_C σ p s m args c cc nL own Ts) {a : Nat} {off : Int} (tgt : Nat) (hd : decode cc pc = .ok (.ifCond .le off, 3)) (ht : (pc : Int) + off = (tgt : Int)) (ha : a < 2 ^ 31) (kt : a = 0 → q_W σ p l e R s m args below meth c Q nL cells slots V G lv tgt st) (kf : 0 < a → q_W σ p l e R s m args below meth c Q nL cells slots V G lv (pc + 3) st) : q_W σ p l e R s m args below meth c Q nL cells slots V G lv pc (.int (nI a) :: st) := q_if_le C tgt hd ht (fun h => kt (by have := (nI_leI (b := 0) ha (by decide)).mp h; omega)) (fun h => kf (Nat.not_le.mp (fun z => h ((nI_leI (b := 0) ha (by decide)).mpr z))))
end QIFN
def q_n (x : Int32) : Nat := x.toNatClampNeg
theorem q_n_nI {n : Nat} (h : n < 2 ^ 31) : q_n (nI n) = n := nI_clamp h
theorem q_in_ok {x : Int32} {m : Nat} (hm : m < 1000) : (¬ x < nI 0 ∧ ¬ nI m < x) ↔ q_ok (m + 1) x := by
  constructor
  · rintro ⟨h1, h2⟩
    refine q_ok_of h1 ?_ (by omega)
    rcases pk_ix x (n := m + 1) (by omega) with h | h | ⟨j, h, e⟩
    · exact absurd h h1
    · exact absurd (Int32.lt_of_lt_of_le (nI_lt (Nat.lt_succ_self m) (by omega)) h) h2
    · rw [e]; exact nI_lt h (by omega)
  · rintro ⟨j, hj, rfl⟩
    exact ⟨nI_pos (by omega), nI_nlt (by omega) (by omega)⟩
theorem q_in_ok2 {x : Int32} {n : Nat} (hn : n < 1000) : (¬ x < nI 0 ∧ ¬ (nI n - nI 1) < x) ↔ q_ok n x := by
  cases n with
  | zero =>
    constructor
    · rintro ⟨h1, h2⟩
      rcases pk_ix x (n := 0) (by omega) with h | h | ⟨j, h, e⟩
      · exact absurd h h1
      · exact absurd (Int32.lt_of_lt_of_le (show nI 0 - nI 1 < nI 0 by decide) h) h2
      · exact absurd h (Nat.not_lt_zero j)
    · rintro ⟨j, hj, -⟩
      exact absurd hj (Nat.not_lt_zero j)
  | succ m =>
    rw [pk_sub (show 1 ≤ m + 1 by omega)]
    exact q_in_ok (by omega)
/-- a pattern's sides at the reference -/
def q_mok (V : q_V) (p w h : Nat) : Prop := V 73 p = nI w ∧ V 74 p = nI h ∧ 1 ≤ w ∧ w ≤ 8 ∧ 1 ≤ h ∧ h ≤ 6
/-- a sign's sides at the reference -/
def q_sok (V : q_V) (t w h : Nat) : Prop := V 85 t = nI w ∧ V 86 t = nI h ∧ 1 ≤ w ∧ w ≤ 3 ∧ 1 ≤ h ∧ h ≤ 3
def q_mneed (V : q_V) (p w : Nat) (y : Int32) (k : Nat) : Prop := V 75 (48 * p + 8 * (k / w) + k % w) = y
def q_meq (V : q_V) (o w h k p : Nat) (t : Nat) : Prop := V 75 (48 * p + 8 * (t / q_ow k w h) + t % q_ow k w h) = V 75 (48 * o + 8 * (q_src k w h (t % q_ow k w h) (t / q_ow k w h)).2 + (q_src k w h (t % q_ow k w h) (t / q_ow k w h)).1)
/-- the image k of pattern o (w, h) is alike to pattern p (w2, h2) -/
def q_malike (V : q_V) (o w h k p w2 h2 : Nat) : Prop := w2 = q_ow k w h ∧ h2 = q_oh k w h ∧ ∀ t, t < q_ow k w h * q_oh k w h → q_meq V o w h k p t
def q_mseq (V : q_V) (t p sw cn rn : Nat) (k : Nat) : Prop := V 87 (9 * t + k) = V 75 (48 * p + 8 * (rn + k / sw) + (cn + k % sw))
def q_mstands (V : q_V) (t p w h sw sh cn rn : Nat) : Prop := cn + sw ≤ w ∧ rn + sh ≤ h ∧ ∀ k, k < sw * sh → q_mseq V t p sw cn rn k
noncomputable def q_mplaces (V : q_V) (t p w h sw sh : Nat) : Nat := q_ct (fun k => q_mstands V t p w h sw sh (k % 8) (k / 8)) 48
theorem q_div_lt {k w h : Nat} (hk : k < w * h) (hw : 0 < w) : k / w < h := by
  rw [Nat.div_lt_iff_lt_mul hw, Nat.mul_comm]
  exact hk
theorem q_mod_lt {k w : Nat} (hw : 0 < w) : k % w < w := Nat.mod_lt k hw
theorem q_owoh (k : Nat) {w h : Nat} (h1 : 1 ≤ w) (h2 : w ≤ 8) (h3 : 1 ≤ h) (h4 : h ≤ 6) : 1 ≤ q_ow k w h ∧ q_ow k w h ≤ 8 ∧ 1 ≤ q_oh k w h ∧ q_oh k w h ≤ 8 ∧ q_ow k w h * q_oh k w h ≤ 48 := by
  have h6 : w * h ≤ 48 := Nat.mul_le_mul h2 h4
  unfold q_ow q_oh
  by_cases e : k % 2 = 1
  · rw [if_pos e, if_pos e, Nat.mul_comm h w]; omega
  · rw [if_neg e, if_neg e]; omega
end
section
/-- which answer an operation gives: 0 it returns, else the number of its throw -/
noncomputable def q_c1 (P : Prop) : Nat := @ite Nat P (Classical.propDecidable P) 0 1
noncomputable def q_c2 (P R : Prop) : Nat := @ite Nat P (Classical.propDecidable P) (@ite Nat R (Classical.propDecidable R) 0 2) 1
noncomputable def q_c3 (P R F : Prop) : Nat := @ite Nat P (Classical.propDecidable P) (@ite Nat R (Classical.propDecidable R) (@ite Nat F (Classical.propDecidable F) 0 3) 2) 1
theorem q_c1_0 {P : Prop} (h : P) : q_c1 P = 0 := if_pos h
theorem q_c1_1 {P : Prop} (h : ¬ P) : q_c1 P = 1 := if_neg h
theorem q_c2_0 {P R : Prop} (h : P) (h2 : R) : q_c2 P R = 0 := by unfold q_c2; rw [if_pos h, if_pos h2]
theorem q_c2_1 {P R : Prop} (h : ¬ P) : q_c2 P R = 1 := by unfold q_c2; rw [if_neg h]
theorem q_c2_2 {P R : Prop} (h : P) (h2 : ¬ R) : q_c2 P R = 2 := by unfold q_c2; rw [if_pos h, if_neg h2]
theorem q_c3_0 {P R F : Prop} (h : P) (h2 : R) (h3 : F) : q_c3 P R F = 0 := by unfold q_c3; rw [if_pos h, if_pos h2, if_pos h3]
theorem q_c3_1 {P R F : Prop} (h : ¬ P) : q_c3 P R F = 1 := by unfold q_c3; rw [if_neg h]
theorem q_c3_2 {P R F : Prop} (h : P) (h2 : ¬ R) : q_c3 P R F = 2 := by unfold q_c3; rw [if_pos h, if_neg h2]
theorem q_c3_3 {P R F : Prop} (h : P) (h2 : R) (h3 : ¬ F) : q_c3 P R F = 3 := by unfold q_c3; rw [if_pos h, if_pos h2, if_neg h3]
theorem q_c1_of {P : Prop} (h : q_c1 P = 0) : P := Classical.byContradiction fun z => by rw [q_c1_1 z] at h; cases h
theorem q_c2_of {P R : Prop} (h : q_c2 P R = 0) : P ∧ R := by
  by_cases hP : P
  · by_cases hR : R
    · exact ⟨hP, hR⟩
    · rw [q_c2_2 hP hR] at h; cases h
  · rw [q_c2_1 hP] at h; cases h
theorem q_c3_of {P R F : Prop} (h : q_c3 P R F = 0) : P ∧ R ∧ F := by
  by_cases hP : P
  · by_cases hR : R
    · by_cases hF : F
      · exact ⟨hP, hR, hF⟩
      · rw [q_c3_3 hP hR hF] at h; cases h
    · rw [q_c3_2 hP hR] at h; cases h
  · rw [q_c3_1 hP] at h; cases h
/-- what the reference says behind an operation with the code k: it answers r and leaves W, or notes k -/
def q_mres (V : q_V) (k : Nat) (r0 : Int32) (W : q_V) (r : Int32) (V' : q_V) : Prop := (k = 0 ∧ r0 = r ∧ W = V') ∨ (k ≠ 0 ∧ q_up V 19 0 (nI k) = V')
theorem q_mres_0 {V V' W : q_V} {k : Nat} {r0 r : Int32} (h : k = 0) (h1 : r0 = r) (h2 : W = V') : q_mres V k r0 W r V' := Or.inl ⟨h, h1, h2⟩
theorem q_mres_1 {V V' W : q_V} {k j : Nat} {r0 r : Int32} (h : k = j) (h0 : j ≠ 0) (h1 : q_up V 19 0 (nI j) = V') : q_mres V k r0 W r V' := by
  subst h
  exact Or.inr ⟨h0, h1⟩
noncomputable def q_mstory (V : q_V) (pa : Nat) : Nat → Int32
  | 0 => 0
  | k + 1 => q_mstory V pa k + V 88 k * nI (q_mplaces V k pa (q_n (V 73 pa)) (q_n (V 74 pa)) (q_n (V 85 k)) (q_n (V 86 k)))
end
section
abbrev rX3_isIn : Room := { frames := 1, cells := 0, slots := 0, locals := 12 }
set_option maxHeartbeats 4000000 in
set_option maxRecDepth 100000 in
/-- isIn -/
theorem kX3_isIn (l : Launch) (σ : q_E) (V : q_V) (G : q_G) (x lo hi : Int32) : q_Mi l yX3_isIn wsX3_isIn rX3_isIn σ [.int x, .int lo, .int hi] V G (fun r V' G' => q_is (¬ x < lo ∧ ¬ hi < x) r ∧ V = V' ∧ G = G') 0 0 := by
  refine q_Mi_of (cc := cX3_isIn) (maxL := 3) (lv := [(0, .int x), (1, .int lo), (2, .int hi)]) (by decide +kernel) rfl (Nat.le_of_ble_eq_true rfl) rfl ?_
  intro p e s m args below meth c Q C hR
  refine q_iload_n C dX3_isIn_0 rfl 0 rfl ?_
  refine q_iload_n C dX3_isIn_1 rfl 1 rfl ?_
  refine q_icmp_lt C 14 dX3_isIn_2 (by decide) (fun c_2 => ?_) (fun c_2 => ?_)
  · skip
    refine q_iconst C (nI 0) dX3_isIn_14 (by decide) ?_
    refine hR _ _ _ _ _ _ _ ?_ (by first | rfl | decide) (Nat.le_of_ble_eq_true rfl) (Nat.le_of_ble_eq_true rfl) dX3_isIn_15
    first | exact ⟨q_is_n (fun z => z.2 c_7), rfl, rfl⟩ | exact ⟨q_is_n (fun z => z.1 c_2), rfl, rfl⟩
  · skip
    refine q_iload_n C dX3_isIn_5 rfl 0 rfl ?_
    refine q_iload_n C dX3_isIn_6 rfl 2 rfl ?_
    refine q_icmp_gt C 14 dX3_isIn_7 (by decide) (fun c_7 => ?_) (fun c_7 => ?_)
    · skip
      refine q_iconst C (nI 0) dX3_isIn_14 (by decide) ?_
      refine hR _ _ _ _ _ _ _ ?_ (by first | rfl | decide) (Nat.le_of_ble_eq_true rfl) (Nat.le_of_ble_eq_true rfl) dX3_isIn_15
      first | exact ⟨q_is_n (fun z => z.2 c_7), rfl, rfl⟩ | exact ⟨q_is_n (fun z => z.1 c_2), rfl, rfl⟩
    · skip
      refine q_iconst C (nI 1) dX3_isIn_10 (by decide) ?_
      refine q_goto C 15 dX3_isIn_11 (by decide) ?_
      refine hR _ _ _ _ _ _ _ ?_ (by first | rfl | decide) (Nat.le_of_ble_eq_true rfl) (Nat.le_of_ble_eq_true rfl) dX3_isIn_15
      exact ⟨q_is_y ⟨c_2, c_7⟩, rfl, rfl⟩
abbrev rX3_isPerson : Room := { frames := 2, cells := 0, slots := 0, locals := 34 }
set_option maxHeartbeats 4000000 in
set_option maxRecDepth 100000 in
/-- isPerson -/
theorem kX3_isPerson (l : Launch) (σ : q_E) (V : q_V) (G : q_G) (x : Int32) : q_Mi l yX3_isPerson wsX3_isPerson rX3_isPerson σ [.int x] V G (fun r V' G' => q_is (q_ok 7 x) r ∧ V = V' ∧ G = G') 0 0 := by
  refine q_Mi_of (cc := cX3_isPerson) (maxL := 1) (lv := [(0, .int x)]) (by decide +kernel) rfl (Nat.le_of_ble_eq_true rfl) rfl ?_
  intro p e s m args below meth c Q C hR
  refine q_iload_n C dX3_isPerson_0 rfl 0 rfl ?_
  refine q_iconst C (nI 0) dX3_isPerson_1 (by decide) ?_
  refine q_bipush C (nI 6) dX3_isPerson_2 (by decide) ?_
  refine q_callSi C (As := [.int x, .int (nI 0), .int (nI 6)]) (rest := []) (kX3_isIn l σ V G x (nI 0) (nI 6)) 3 gX3_isPerson_X3_isIn rfl rfl rfl (by decide +kernel) ⟨Nat.le_of_ble_eq_true rfl, Nat.le_of_ble_eq_true rfl⟩ dX3_isPerson_4 rfl (Nat.le_of_ble_eq_true rfl) ⟨Nat.le_of_ble_eq_true rfl, Nat.le_of_ble_eq_true rfl⟩ (fun r_4 V_1 G_2 hq_4 => ?_)
  obtain ⟨hs_4, rfl, rfl⟩ := hq_4
  refine hR _ _ _ _ _ _ _ ?_ (q_is_nar hs_4) (Nat.le_of_ble_eq_true rfl) (Nat.le_of_ble_eq_true rfl) dX3_isPerson_7
  exact ⟨q_is_iff hs_4 (q_in_ok (by decide)), rfl, rfl⟩
abbrev rX3_isColour : Room := { frames := 2, cells := 0, slots := 0, locals := 34 }
set_option maxHeartbeats 4000000 in
set_option maxRecDepth 100000 in
/-- isColour -/
theorem kX3_isColour (l : Launch) (σ : q_E) (V : q_V) (G : q_G) (x : Int32) : q_Mi l yX3_isColour wsX3_isColour rX3_isColour σ [.int x] V G (fun r V' G' => q_is (q_ok 8 x) r ∧ V = V' ∧ G = G') 0 0 := by
  refine q_Mi_of (cc := cX3_isColour) (maxL := 1) (lv := [(0, .int x)]) (by decide +kernel) rfl (Nat.le_of_ble_eq_true rfl) rfl ?_
  intro p e s m args below meth c Q C hR
  refine q_iload_n C dX3_isColour_0 rfl 0 rfl ?_
  refine q_iconst C (nI 0) dX3_isColour_1 (by decide) ?_
  refine q_bipush C (nI 7) dX3_isColour_2 (by decide) ?_
  refine q_callSi C (As := [.int x, .int (nI 0), .int (nI 7)]) (rest := []) (kX3_isIn l σ V G x (nI 0) (nI 7)) 3 gX3_isColour_X3_isIn rfl rfl rfl (by decide +kernel) ⟨Nat.le_of_ble_eq_true rfl, Nat.le_of_ble_eq_true rfl⟩ dX3_isColour_4 rfl (Nat.le_of_ble_eq_true rfl) ⟨Nat.le_of_ble_eq_true rfl, Nat.le_of_ble_eq_true rfl⟩ (fun r_4 V_1 G_2 hq_4 => ?_)
  obtain ⟨hs_4, rfl, rfl⟩ := hq_4
  refine hR _ _ _ _ _ _ _ ?_ (q_is_nar hs_4) (Nat.le_of_ble_eq_true rfl) (Nat.le_of_ble_eq_true rfl) dX3_isColour_7
  exact ⟨q_is_iff hs_4 (q_in_ok (by decide)), rfl, rfl⟩
abbrev rX3_isPattern : Room := { frames := 2, cells := 0, slots := 0, locals := 34 }
theorem iX3_isPattern_X3 : ∀ w ∈ u_ws RX3 TX3 26, w ∈ wsX3_isPattern := by decide +kernel
set_option maxHeartbeats 4000000 in
set_option maxRecDepth 100000 in
/-- isPattern -/
theorem kX3_isPattern (l : Launch) (σ : q_E) (V : q_V) (G : q_G) {n : Nat} (hn : V 19 7 = nI n) (hn2 : n ≤ 12) (x : Int32) : q_Mi l yX3_isPattern wsX3_isPattern rX3_isPattern σ [.ref (σ.2.1 19), .int x] V G (fun r V' G' => q_is (q_ok n x) r ∧ V = V' ∧ G = G') 0 0 := by
  refine q_Mi_of (cc := cX3_isPattern) (maxL := 2) (lv := [(0, .ref (σ.2.1 19)), (1, .int x)]) (by decide +kernel) rfl (Nat.le_of_ble_eq_true rfl) rfl ?_
  intro p e s m args below meth c Q C hR
  refine q_iload_n C dX3_isPattern_0 rfl 1 rfl ?_
  refine q_iconst C (nI 0) dX3_isPattern_1 (by decide) ?_
  refine q_aload_n C dX3_isPattern_2 rfl 0 rfl ?_
  refine q_get C (k := 19) (fi := 7) (.int (nI n)) (by omega) q_enMO rfl iX3_isPattern_X3 (by decide) (by decide +kernel) rfl (congrArg (fun z => some (Value.int z)) (hn)) dX3_isPattern_3 ?_
  refine q_iconst C (nI 1) dX3_isPattern_6 (by decide) ?_
  refine q_isub C dX3_isPattern_7 ?_
  refine q_callSi C (As := [.int x, .int (nI 0), .int (nI n - nI 1)]) (rest := []) (kX3_isIn l σ V G x (nI 0) (nI n - nI 1)) 3 gX3_isPattern_X3_isIn rfl rfl rfl (by decide +kernel) ⟨Nat.le_of_ble_eq_true rfl, Nat.le_of_ble_eq_true rfl⟩ dX3_isPattern_8 rfl (Nat.le_of_ble_eq_true rfl) ⟨Nat.le_of_ble_eq_true rfl, Nat.le_of_ble_eq_true rfl⟩ (fun r_8 V_1 G_2 hq_8 => ?_)
  obtain ⟨hs_8, rfl, rfl⟩ := hq_8
  refine hR _ _ _ _ _ _ _ ?_ (q_is_nar hs_8) (Nat.le_of_ble_eq_true rfl) (Nat.le_of_ble_eq_true rfl) dX3_isPattern_11
  exact ⟨q_is_iff hs_8 (q_in_ok2 (by omega)), rfl, rfl⟩
abbrev rX3_isBelt : Room := { frames := 2, cells := 0, slots := 0, locals := 34 }
theorem iX3_isBelt_X3 : ∀ w ∈ u_ws RX3 TX3 26, w ∈ wsX3_isBelt := by decide +kernel
set_option maxHeartbeats 4000000 in
set_option maxRecDepth 100000 in
/-- isBelt -/
theorem kX3_isBelt (l : Launch) (σ : q_E) (V : q_V) (G : q_G) (x : Int32) : q_Mi l yX3_isBelt wsX3_isBelt rX3_isBelt σ [.ref (σ.2.1 19), .int x] V G (fun r V' G' => q_is (∃ b, b < 20 ∧ x = nI b ∧ ¬ V 78 b = -1) r ∧ V = V' ∧ G = G') 0 0 := by
  refine q_Mi_of (cc := cX3_isBelt) (maxL := 2) (lv := [(0, .ref (σ.2.1 19)), (1, .int x)]) (by decide +kernel) rfl (Nat.le_of_ble_eq_true rfl) rfl ?_
  intro p e s m args below meth c Q C hR
  refine q_iload_n C dX3_isBelt_0 rfl 1 rfl ?_
  refine q_iconst C (nI 0) dX3_isBelt_1 (by decide) ?_
  refine q_bipush C (nI 19) dX3_isBelt_2 (by decide) ?_
  refine q_callSi C (As := [.int x, .int (nI 0), .int (nI 19)]) (rest := []) (kX3_isIn l σ V G x (nI 0) (nI 19)) 3 gX3_isBelt_X3_isIn rfl rfl rfl (by decide +kernel) ⟨Nat.le_of_ble_eq_true rfl, Nat.le_of_ble_eq_true rfl⟩ dX3_isBelt_4 rfl (Nat.le_of_ble_eq_true rfl) ⟨Nat.le_of_ble_eq_true rfl, Nat.le_of_ble_eq_true rfl⟩ (fun r_4 V_1 G_2 hq_4 => ?_)
  obtain ⟨hs_4, rfl, rfl⟩ := hq_4
  refine q_if_eq C 24 dX3_isBelt_7 (by decide) (fun c_7 => ?_) (fun c_7 => ?_)
  · skip
    have b_4 := (q_is_eq hs_4).mp c_7
    refine q_iconst C (nI 0) dX3_isBelt_24 (by decide) ?_
    refine hR _ _ _ _ _ _ _ ?_ (by first | rfl | decide) (Nat.le_of_ble_eq_true rfl) (Nat.le_of_ble_eq_true rfl) dX3_isBelt_25
    first | exact ⟨q_is_n (fun ⟨j, hj, e, h⟩ => h (q_nI_inj e (by omega) (by omega) ▸ c_17)), rfl, rfl⟩ | exact ⟨q_is_n (fun ⟨j, hj, e, h⟩ => b_4 ((q_in_ok (m := 19) (by decide)).mpr ⟨j, hj, e⟩)), rfl, rfl⟩
  · skip
    have b_4 := (q_is_ne hs_4).mp c_7
    obtain ⟨b, hb, rfl⟩ := (q_in_ok (m := 19) (by decide)).mp b_4
    refine q_aload_n C dX3_isBelt_10 rfl 0 rfl ?_
    refine q_get C (k := 19) (fi := 13) (.ref (σ.2.1 78)) (by omega) q_enMO rfl iX3_isBelt_X3 (by decide) (by decide +kernel) rfl rfl dX3_isBelt_11 ?_
    refine q_iload_n C dX3_isBelt_14 rfl 1 rfl ?_
    refine q_ialdN C (k := 78) (n := 20) ⟨by decide, by decide, by decide⟩ (by omega) (by decide) dX3_isBelt_15 ?_
    refine q_iconst C ((-1)) dX3_isBelt_16 (by decide) ?_
    refine q_icmp_eq C 24 dX3_isBelt_17 (by decide) (fun c_17 => ?_) (fun c_17 => ?_)
    · skip
      refine q_iconst C (nI 0) dX3_isBelt_24 (by decide) ?_
      refine hR _ _ _ _ _ _ _ ?_ (by first | rfl | decide) (Nat.le_of_ble_eq_true rfl) (Nat.le_of_ble_eq_true rfl) dX3_isBelt_25
      first | exact ⟨q_is_n (fun ⟨j, hj, e, h⟩ => h (q_nI_inj e (by omega) (by omega) ▸ c_17)), rfl, rfl⟩ | exact ⟨q_is_n (fun ⟨j, hj, e, h⟩ => b_4 ((q_in_ok (m := 19) (by decide)).mpr ⟨j, hj, e⟩)), rfl, rfl⟩
    · skip
      refine q_iconst C (nI 1) dX3_isBelt_20 (by decide) ?_
      refine q_goto C 25 dX3_isBelt_21 (by decide) ?_
      refine hR _ _ _ _ _ _ _ ?_ (by first | rfl | decide) (Nat.le_of_ble_eq_true rfl) (Nat.le_of_ble_eq_true rfl) dX3_isBelt_25
      refine ⟨q_is_y ⟨b, hb, rfl, c_17⟩, rfl, rfl⟩
abbrev rX3_at : Room := { frames := 1, cells := 0, slots := 0, locals := 12 }
theorem iX3_at_X3 : ∀ w ∈ u_ws RX3 TX3 26, w ∈ wsX3_at := by decide +kernel
set_option maxHeartbeats 4000000 in
set_option maxRecDepth 100000 in
/-- at -/
theorem kX3_at (l : Launch) (σ : q_E) (V : q_V) (G : q_G) {pa cn rn : Nat} (hp : pa < 12) (hc : cn < 8) (hr : rn < 6) : q_Mi l yX3_at wsX3_at rX3_at σ [.ref (σ.2.1 19), .int (nI pa), .int (nI cn), .int (nI rn)] V G (fun r V' G' => V 75 (48 * pa + 8 * rn + cn) = r ∧ V = V' ∧ G = G') 0 0 := by
  refine q_Mi_of (cc := cX3_at) (maxL := 4) (lv := [(0, .ref (σ.2.1 19)), (1, .int (nI pa)), (2, .int (nI cn)), (3, .int (nI rn))]) (by decide +kernel) rfl (Nat.le_of_ble_eq_true rfl) rfl ?_
  intro p e s m args below meth c Q C hR
  refine q_aload_n C dX3_at_0 rfl 0 rfl ?_
  refine q_get C (k := 19) (fi := 10) (.ref (σ.2.1 75)) (by omega) q_enMO rfl iX3_at_X3 (by decide) (by decide +kernel) rfl rfl dX3_at_1 ?_
  refine q_bipush C (nI 48) dX3_at_4 (by decide) ?_
  refine q_iload_n C dX3_at_6 rfl 1 rfl ?_
  refine q_imulN C dX3_at_7  ?_
  refine q_bipush C (nI 8) dX3_at_8 (by decide) ?_
  refine q_iload_n C dX3_at_10 rfl 3 rfl ?_
  refine q_imulN C dX3_at_11  ?_
  refine q_iaddN C dX3_at_12  ?_
  refine q_iload_n C dX3_at_13 rfl 2 rfl ?_
  refine q_iaddN C dX3_at_14  ?_
  refine q_ialdN C (k := 75) (n := 576) ⟨by decide, by decide, by decide⟩ (by omega) (by decide) dX3_at_15 ?_
  refine hR _ _ _ _ _ _ _ ?_ rfl (Nat.le_of_ble_eq_true rfl) (Nat.le_of_ble_eq_true rfl) dX3_at_16
  exact ⟨rfl, rfl, rfl⟩
abbrev rX3_needsOf : Room := { frames := 2, cells := 0, slots := 0, locals := 35 }
theorem iX3_needsOf_X3 : ∀ w ∈ u_ws RX3 TX3 26, w ∈ wsX3_needsOf := by decide +kernel
set_option maxHeartbeats 4000000 in
set_option maxRecDepth 100000 in
/-- needsOf -/
theorem kX3_needsOf (l : Launch) (σ : q_E) (V : q_V) (G : q_G) {pa w h : Nat} (hp : pa < 12) (hm : q_mok V pa w h) (y : Int32) : q_Mi l yX3_needsOf wsX3_needsOf rX3_needsOf σ [.ref (σ.2.1 19), .int (nI pa), .int y] V G (fun r V' G' => nI (q_ct (q_mneed V pa w y) (w * h)) = r ∧ V = V' ∧ G = G') 0 0 := by
  refine q_Mi_of (cc := cX3_needsOf) (maxL := 5) (lv := [(0, .ref (σ.2.1 19)), (1, .int (nI pa)), (2, .int y)]) (by decide +kernel) rfl (Nat.le_of_ble_eq_true rfl) rfl ?_
  intro p e s m args below meth c Q C hR
  obtain ⟨hmw, hmh, hw1, hw8, hh1, hh6⟩ := id hm
  have hwh : w * h ≤ 48 := Nat.mul_le_mul hw8 hh6
  refine q_iconst C (nI 0) dX3_needsOf_0 (by decide) ?_
  refine q_istore_n C [(3, .int (nI 0)), (0, .ref (σ.2.1 19)), (1, .int (nI pa)), (2, .int y)] dX3_needsOf_1 rfl (by decide) rfl ?_
  refine q_iconst C (nI 0) dX3_needsOf_2 (by decide) ?_
  refine q_istore C [(4, .int (nI 0)), (3, .int (nI 0)), (0, .ref (σ.2.1 19)), (1, .int (nI pa)), (2, .int y)] dX3_needsOf_3 (by decide) rfl ?_
  have L_1 : ∀ (nL_1 : Nat) (j n : Nat) (hj : j ≤ w * h) (hn : n = q_ct (q_mneed V pa w y) j), w * h - j < nL_1 → q_W σ p l e rX3_needsOf s m args below meth c Q 5 0 0 V G [(3, .int (nI n)), (4, .int (nI j)), (0, .ref (σ.2.1 19)), (1, .int (nI pa)), (2, .int y)] 5 [] := by
    intro nL_1
    induction nL_1 with
    | zero => intro j n hj hn h; exact absurd h (Nat.not_lt_zero _)
    | succ nL_1 ihL_1 =>
      intro j n hj hn hmL_1
      refine q_iload C dX3_needsOf_5 1 rfl ?_
      refine q_aload_n C dX3_needsOf_7 rfl 2 rfl ?_
      refine q_get C (k := 19) (fi := 8) (.ref (σ.2.1 73)) (by omega) q_enMO rfl iX3_needsOf_X3 (by decide) (by decide +kernel) rfl rfl dX3_needsOf_8 ?_
      refine q_iload_n C dX3_needsOf_11 rfl 3 rfl ?_
      refine q_ialdN C (k := 73) (n := 12) ⟨by decide, by decide, by decide⟩ (by omega) (by decide) dX3_needsOf_12 ?_
      refine q_stk (st' := [.int (nI w), .int (nI j)]) (congrArg (fun z => Value.int z :: [.int (nI j)]) (hmw)) ?_
      refine q_aload_n C dX3_needsOf_13 rfl 2 rfl ?_
      refine q_get C (k := 19) (fi := 9) (.ref (σ.2.1 74)) (by omega) q_enMO rfl iX3_needsOf_X3 (by decide) (by decide +kernel) rfl rfl dX3_needsOf_14 ?_
      refine q_iload_n C dX3_needsOf_17 rfl 3 rfl ?_
      refine q_ialdN C (k := 74) (n := 12) ⟨by decide, by decide, by decide⟩ (by omega) (by decide) dX3_needsOf_18 ?_
      refine q_stk (st' := [.int (nI h), .int (nI w), .int (nI j)]) (congrArg (fun z => Value.int z :: [.int (nI w), .int (nI j)]) (hmh)) ?_
      refine q_imulN C dX3_needsOf_19  ?_
      refine q_icmp_geN C 64 dX3_needsOf_20 (by decide) (by omega) (by omega) (fun c_20 => ?_) (fun c_20 => ?_)
      · skip
        refine q_iload_n C dX3_needsOf_64 rfl 0 rfl ?_
        refine hR _ _ _ _ _ _ _ ?_ rfl (Nat.le_of_ble_eq_true rfl) (Nat.le_of_ble_eq_true rfl) dX3_needsOf_65
        obtain rfl : j = w * h := by omega
        exact ⟨by rw [hn], rfl, rfl⟩
      · skip
        have hd1 := q_div_lt c_20 (by omega : 0 < w)
        have hd2 := q_mod_lt (k := j) (by omega : 0 < w)
        refine q_iload_n C dX3_needsOf_23 rfl 0 rfl ?_
        refine q_aload_n C dX3_needsOf_24 rfl 2 rfl ?_
        refine q_iload_n C dX3_needsOf_25 rfl 3 rfl ?_
        refine q_iload C dX3_needsOf_26 1 rfl ?_
        refine q_aload_n C dX3_needsOf_28 rfl 2 rfl ?_
        refine q_get C (k := 19) (fi := 8) (.ref (σ.2.1 73)) (by omega) q_enMO rfl iX3_needsOf_X3 (by decide) (by decide +kernel) rfl rfl dX3_needsOf_29 ?_
        refine q_iload_n C dX3_needsOf_32 rfl 3 rfl ?_
        refine q_ialdN C (k := 73) (n := 12) ⟨by decide, by decide, by decide⟩ (by omega) (by decide) dX3_needsOf_33 ?_
        refine q_stk (st' := [.int (nI w), .int (nI j), .int (nI pa), .ref (σ.2.1 19), .int (nI n)]) (congrArg (fun z => Value.int z :: [.int (nI j), .int (nI pa), .ref (σ.2.1 19), .int (nI n)]) (hmw)) ?_
        refine q_iremN C dX3_needsOf_34 (by omega) (by omega) (by omega) ?_
        refine q_iload C dX3_needsOf_35 1 rfl ?_
        refine q_aload_n C dX3_needsOf_37 rfl 2 rfl ?_
        refine q_get C (k := 19) (fi := 8) (.ref (σ.2.1 73)) (by omega) q_enMO rfl iX3_needsOf_X3 (by decide) (by decide +kernel) rfl rfl dX3_needsOf_38 ?_
        refine q_iload_n C dX3_needsOf_41 rfl 3 rfl ?_
        refine q_ialdN C (k := 73) (n := 12) ⟨by decide, by decide, by decide⟩ (by omega) (by decide) dX3_needsOf_42 ?_
        refine q_stk (st' := [.int (nI w), .int (nI j), .int (nI (j % w)), .int (nI pa), .ref (σ.2.1 19), .int (nI n)]) (congrArg (fun z => Value.int z :: [.int (nI j), .int (nI (j % w)), .int (nI pa), .ref (σ.2.1 19), .int (nI n)]) (hmw)) ?_
        refine q_idivN C dX3_needsOf_43 (by omega) (by omega) (by omega) ?_
        refine q_callVi C (As := [.int (nI pa), .int (nI (j % w)), .int (nI (j / w))]) (rest := [.int (nI n)]) (k := 19) (by omega) q_enMO rfl rfl (kX3_at l σ V G (pa := pa) (cn := j % w) (rn := j / w) (by omega) (by omega) (by omega)) 3 gX3_needsOf_X3_at rfl rfl rfl (by decide +kernel) ⟨Nat.le_of_ble_eq_true rfl, Nat.le_of_ble_eq_true rfl⟩ dX3_needsOf_44 rfl (Nat.le_of_ble_eq_true rfl) ⟨Nat.le_of_ble_eq_true rfl, Nat.le_of_ble_eq_true rfl⟩ (fun r_44 V_2 G_3 hq_44 => ?_)
        obtain ⟨rfl, rfl, rfl⟩ := hq_44
        refine q_iload_n C dX3_needsOf_47 rfl 4 rfl ?_
        refine q_icmp_ne C 55 dX3_needsOf_48 (by decide) (fun c_48 => ?_) (fun c_48 => ?_)
        · skip
          refine q_iconst C (nI 0) dX3_needsOf_55 (by decide) ?_
          refine q_iaddN C dX3_needsOf_56  ?_
          refine q_istore_n C [(3, .int (nI (n + 0))), (4, .int (nI j)), (0, .ref (σ.2.1 19)), (1, .int (nI pa)), (2, .int y)] dX3_needsOf_57 rfl (by decide) rfl ?_
          refine q_iincN C [(4, .int (nI (j + 1))), (3, .int (nI (n + 0))), (0, .ref (σ.2.1 19)), (1, .int (nI pa)), (2, .int y)] dX3_needsOf_58 1 rfl (by decide) rfl ?_
          refine q_goto C 5 dX3_needsOf_61 (by decide) ?_
          refine q_sub (lv' := [(3, .int (nI (n + 0))), (4, .int (nI (j + 1))), (0, .ref (σ.2.1 19)), (1, .int (nI pa)), (2, .int y)]) [1, 0, 2, 3, 4] rfl ?_
          exact ihL_1 (j + 1) _ (by omega) (by first | exact hn.trans (q_ct_n (p := q_mneed V pa w y) c_48).symm | (rw [hn]; exact (q_ct_y (p := q_mneed V pa w y) c_48).symm)) (by omega)
        · skip
          refine q_iconst C (nI 1) dX3_needsOf_51 (by decide) ?_
          refine q_goto C 56 dX3_needsOf_52 (by decide) ?_
          refine q_iaddN C dX3_needsOf_56  ?_
          refine q_istore_n C [(3, .int (nI (n + 1))), (4, .int (nI j)), (0, .ref (σ.2.1 19)), (1, .int (nI pa)), (2, .int y)] dX3_needsOf_57 rfl (by decide) rfl ?_
          refine q_iincN C [(4, .int (nI (j + 1))), (3, .int (nI (n + 1))), (0, .ref (σ.2.1 19)), (1, .int (nI pa)), (2, .int y)] dX3_needsOf_58 1 rfl (by decide) rfl ?_
          refine q_goto C 5 dX3_needsOf_61 (by decide) ?_
          refine q_sub (lv' := [(3, .int (nI (n + 1))), (4, .int (nI (j + 1))), (0, .ref (σ.2.1 19)), (1, .int (nI pa)), (2, .int y)]) [1, 0, 2, 3, 4] rfl ?_
          exact ihL_1 (j + 1) _ (by omega) (by first | exact hn.trans (q_ct_n (p := q_mneed V pa w y) c_48).symm | (rw [hn]; exact (q_ct_y (p := q_mneed V pa w y) c_48).symm)) (by omega)
  refine q_sub (lv' := [(3, .int (nI 0)), (4, .int (nI 0)), (0, .ref (σ.2.1 19)), (1, .int (nI pa)), (2, .int y)]) [1, 0, 2, 3, 4] rfl ?_
  exact L_1 _ 0 0 (Nat.zero_le _) rfl (Nat.lt_succ_self _)
abbrev rX3_image : Room := { frames := 2, cells := 0, slots := 0, locals := 35 }
theorem iX3_image_X3 : ∀ w ∈ u_ws RX3 TX3 26, w ∈ wsX3_image := by decide +kernel
set_option maxHeartbeats 4000000 in
set_option maxRecDepth 100000 in
/-- image -/
theorem kX3_image (l : Launch) (σ : q_E) (V : q_V) (G : q_G) {pa w h : Nat} (hp : pa < 12) (hm : q_mok V pa w h) {k cn rn : Nat} (hk : k < 8) (hc : cn < q_ow k w h) (hr : rn < q_oh k w h) : q_Mi l yX3_image wsX3_image rX3_image σ [.ref (σ.2.1 19), .int (nI pa), .int (nI cn), .int (nI rn), .int (nI (k % 4)), .int (nI (if 4 ≤ k then 1 else 0))] V G (fun r V' G' => V 75 (48 * pa + 8 * (q_src k w h cn rn).2 + (q_src k w h cn rn).1) = r ∧ V = V' ∧ G = G') 0 0 := by
  refine q_Mi_of (cc := cX3_image) (maxL := 10) (lv := [(0, .ref (σ.2.1 19)), (1, .int (nI pa)), (2, .int (nI cn)), (3, .int (nI rn)), (4, .int (nI (k % 4))), (5, .int (nI (if 4 ≤ k then 1 else 0)))]) (by decide +kernel) rfl (Nat.le_of_ble_eq_true rfl) rfl ?_
  intro p e s m args below meth c Q C hR
  obtain ⟨hmw, hmh, hw1, hw8, hh1, hh6⟩ := id hm
  have hwh : w * h ≤ 48 := Nat.mul_le_mul hw8 hh6
  refine q_aload_n C dX3_image_0 rfl 0 rfl ?_
  refine q_get C (k := 19) (fi := 8) (.ref (σ.2.1 73)) (by omega) q_enMO rfl iX3_image_X3 (by decide) (by decide +kernel) rfl rfl dX3_image_1 ?_
  refine q_iload_n C dX3_image_4 rfl 1 rfl ?_
  refine q_ialdN C (k := 73) (n := 12) ⟨by decide, by decide, by decide⟩ (by omega) (by decide) dX3_image_5 ?_
  refine q_stk (st' := [.int (nI w)]) (congrArg (fun z => Value.int z :: []) (hmw)) ?_
  refine q_istore C [(6, .int (nI w)), (0, .ref (σ.2.1 19)), (1, .int (nI pa)), (2, .int (nI cn)), (3, .int (nI rn)), (4, .int (nI (k % 4))), (5, .int (nI (if 4 ≤ k then 1 else 0)))] dX3_image_6 (by decide) rfl ?_
  refine q_aload_n C dX3_image_8 rfl 1 rfl ?_
  refine q_get C (k := 19) (fi := 9) (.ref (σ.2.1 74)) (by omega) q_enMO rfl iX3_image_X3 (by decide) (by decide +kernel) rfl rfl dX3_image_9 ?_
  refine q_iload_n C dX3_image_12 rfl 2 rfl ?_
  refine q_ialdN C (k := 74) (n := 12) ⟨by decide, by decide, by decide⟩ (by omega) (by decide) dX3_image_13 ?_
  refine q_stk (st' := [.int (nI h)]) (congrArg (fun z => Value.int z :: []) (hmh)) ?_
  refine q_istore C [(7, .int (nI h)), (6, .int (nI w)), (0, .ref (σ.2.1 19)), (1, .int (nI pa)), (2, .int (nI cn)), (3, .int (nI rn)), (4, .int (nI (k % 4))), (5, .int (nI (if 4 ≤ k then 1 else 0)))] dX3_image_14 (by decide) rfl ?_
  refine q_iload_n C dX3_image_16 rfl 4 rfl ?_
  refine q_istore C [(8, .int (nI cn)), (7, .int (nI h)), (6, .int (nI w)), (0, .ref (σ.2.1 19)), (1, .int (nI pa)), (2, .int (nI cn)), (3, .int (nI rn)), (4, .int (nI (k % 4))), (5, .int (nI (if 4 ≤ k then 1 else 0)))] dX3_image_17 (by decide) rfl ?_
  refine q_iload_n C dX3_image_19 rfl 6 rfl ?_
  refine q_istore C [(9, .int (nI rn)), (8, .int (nI cn)), (7, .int (nI h)), (6, .int (nI w)), (0, .ref (σ.2.1 19)), (1, .int (nI pa)), (2, .int (nI cn)), (3, .int (nI rn)), (4, .int (nI (k % 4))), (5, .int (nI (if 4 ≤ k then 1 else 0)))] dX3_image_20 (by decide) rfl ?_
  refine q_iload C dX3_image_22 8 rfl ?_
  refine q_iconst C (nI 1) dX3_image_24 (by decide) ?_
  refine q_icmp_neN C 42 dX3_image_25 (by decide) (by omega) (by omega) (fun c_25 => ?_) (fun c_25 => ?_)
  · skip
    refine q_iload C dX3_image_42 8 rfl ?_
    refine q_iconst C (nI 2) dX3_image_44 (by decide) ?_
    refine q_icmp_neN C 67 dX3_image_45 (by decide) (by omega) (by omega) (fun c_45 => ?_) (fun c_45 => ?_)
    · skip
      refine q_iload C dX3_image_67 8 rfl ?_
      refine q_iconst C (nI 3) dX3_image_69 (by decide) ?_
      refine q_icmp_neN C 84 dX3_image_70 (by decide) (by omega) (by omega) (fun c_70 => ?_) (fun c_70 => ?_)
      · skip
        have e4 : k % 4 = 0 := by omega
        have hcb : cn < w := by have h9 := hc; rw [q_ow, if_neg (by omega)] at h9; exact h9
        have hrb : rn < h := by have h9 := hr; rw [q_oh, if_neg (by omega)] at h9; exact h9
        refine q_aload_n C dX3_image_84 rfl 4 rfl ?_
        refine q_iload_n C dX3_image_85 rfl 5 rfl ?_
        refine q_iload C dX3_image_86 9 rfl ?_
        refine q_if_eqN C 101 dX3_image_88 (by decide) (by split <;> omega) (fun c_88 => ?_) (fun c_88 => ?_)
        · skip
          have h4 : ¬ 4 ≤ k := fun z => by rw [if_pos z] at c_88; exact absurd c_88 (by decide)
          refine q_iload C dX3_image_101 1 rfl ?_
          refine q_iload C dX3_image_103 0 rfl ?_
          refine q_callVi C (As := [.int (nI pa), .int (nI cn), .int (nI rn)]) (rest := []) (k := 19) (by omega) q_enMO rfl rfl (kX3_at l σ V G (pa := pa) (cn := cn) (rn := rn) (by omega) (by omega) (by omega)) 3 gX3_image_X3_at rfl rfl rfl (by decide +kernel) ⟨Nat.le_of_ble_eq_true rfl, Nat.le_of_ble_eq_true rfl⟩ dX3_image_105 rfl (Nat.le_of_ble_eq_true rfl) ⟨Nat.le_of_ble_eq_true rfl, Nat.le_of_ble_eq_true rfl⟩ (fun r_105 V_1 G_2 hq_105 => ?_)
          obtain ⟨rfl, rfl, rfl⟩ := hq_105
          refine hR _ _ _ _ _ _ _ ?_ rfl (Nat.le_of_ble_eq_true rfl) (Nat.le_of_ble_eq_true rfl) dX3_image_108
          refine ⟨?_, rfl, rfl⟩
          first | (simp [q_src, c_25, h4]; done) | (simp [q_src, c_45, h4]; done) | (simp [q_src, c_70, h4]; done) | (simp [q_src, e4, h4]; done)
        · skip
          have h4 : 4 ≤ k := Decidable.byContradiction fun z => c_88 (by rw [if_neg z])
          refine q_iload C dX3_image_91 3 rfl ?_
          refine q_iconst C (nI 1) dX3_image_93 (by decide) ?_
          refine q_isubN C dX3_image_94 (by omega) ?_
          refine q_iload C dX3_image_95 1 rfl ?_
          refine q_isubN C dX3_image_97 (by omega) ?_
          refine q_goto C 103 dX3_image_98 (by decide) ?_
          refine q_iload C dX3_image_103 0 rfl ?_
          refine q_callVi C (As := [.int (nI pa), .int (nI ((w - 1) - cn)), .int (nI rn)]) (rest := []) (k := 19) (by omega) q_enMO rfl rfl (kX3_at l σ V G (pa := pa) (cn := (w - 1) - cn) (rn := rn) (by omega) (by omega) (by omega)) 3 gX3_image_X3_at rfl rfl rfl (by decide +kernel) ⟨Nat.le_of_ble_eq_true rfl, Nat.le_of_ble_eq_true rfl⟩ dX3_image_105 rfl (Nat.le_of_ble_eq_true rfl) ⟨Nat.le_of_ble_eq_true rfl, Nat.le_of_ble_eq_true rfl⟩ (fun r_105 V_3 G_4 hq_105 => ?_)
          obtain ⟨rfl, rfl, rfl⟩ := hq_105
          refine hR _ _ _ _ _ _ _ ?_ rfl (Nat.le_of_ble_eq_true rfl) (Nat.le_of_ble_eq_true rfl) dX3_image_108
          refine ⟨?_, rfl, rfl⟩
          first | (simp [q_src, c_25, h4]; done) | (simp [q_src, c_45, h4]; done) | (simp [q_src, c_70, h4]; done) | (simp [q_src, e4, h4]; done)
      · skip
        have hcb : cn < h := by have h9 := hc; rw [q_ow, if_pos (by omega)] at h9; exact h9
        have hrb : rn < w := by have h9 := hr; rw [q_oh, if_pos (by omega)] at h9; exact h9
        refine q_iload C dX3_image_73 3 rfl ?_
        refine q_iconst C (nI 1) dX3_image_75 (by decide) ?_
        refine q_isubN C dX3_image_76 (by omega) ?_
        refine q_iload_n C dX3_image_77 rfl 7 rfl ?_
        refine q_isubN C dX3_image_78 (by omega) ?_
        refine q_istore C [(8, .int (nI ((w - 1) - rn))), (9, .int (nI rn)), (7, .int (nI h)), (6, .int (nI w)), (0, .ref (σ.2.1 19)), (1, .int (nI pa)), (2, .int (nI cn)), (3, .int (nI rn)), (4, .int (nI (k % 4))), (5, .int (nI (if 4 ≤ k then 1 else 0)))] dX3_image_79 (by decide) rfl ?_
        refine q_iload_n C dX3_image_81 rfl 6 rfl ?_
        refine q_istore C [(9, .int (nI cn)), (8, .int (nI ((w - 1) - rn))), (7, .int (nI h)), (6, .int (nI w)), (0, .ref (σ.2.1 19)), (1, .int (nI pa)), (2, .int (nI cn)), (3, .int (nI rn)), (4, .int (nI (k % 4))), (5, .int (nI (if 4 ≤ k then 1 else 0)))] dX3_image_82 (by decide) rfl ?_
        refine q_aload_n C dX3_image_84 rfl 4 rfl ?_
        refine q_iload_n C dX3_image_85 rfl 5 rfl ?_
        refine q_iload C dX3_image_86 9 rfl ?_
        refine q_if_eqN C 101 dX3_image_88 (by decide) (by split <;> omega) (fun c_88 => ?_) (fun c_88 => ?_)
        · skip
          have h4 : ¬ 4 ≤ k := fun z => by rw [if_pos z] at c_88; exact absurd c_88 (by decide)
          refine q_iload C dX3_image_101 1 rfl ?_
          refine q_iload C dX3_image_103 0 rfl ?_
          refine q_callVi C (As := [.int (nI pa), .int (nI ((w - 1) - rn)), .int (nI cn)]) (rest := []) (k := 19) (by omega) q_enMO rfl rfl (kX3_at l σ V G (pa := pa) (cn := (w - 1) - rn) (rn := cn) (by omega) (by omega) (by omega)) 3 gX3_image_X3_at rfl rfl rfl (by decide +kernel) ⟨Nat.le_of_ble_eq_true rfl, Nat.le_of_ble_eq_true rfl⟩ dX3_image_105 rfl (Nat.le_of_ble_eq_true rfl) ⟨Nat.le_of_ble_eq_true rfl, Nat.le_of_ble_eq_true rfl⟩ (fun r_105 V_5 G_6 hq_105 => ?_)
          obtain ⟨rfl, rfl, rfl⟩ := hq_105
          refine hR _ _ _ _ _ _ _ ?_ rfl (Nat.le_of_ble_eq_true rfl) (Nat.le_of_ble_eq_true rfl) dX3_image_108
          refine ⟨?_, rfl, rfl⟩
          first | (simp [q_src, c_25, h4]; done) | (simp [q_src, c_45, h4]; done) | (simp [q_src, c_70, h4]; done) | (simp [q_src, e4, h4]; done)
        · skip
          have h4 : 4 ≤ k := Decidable.byContradiction fun z => c_88 (by rw [if_neg z])
          refine q_iload C dX3_image_91 3 rfl ?_
          refine q_iconst C (nI 1) dX3_image_93 (by decide) ?_
          refine q_isubN C dX3_image_94 (by omega) ?_
          refine q_iload C dX3_image_95 1 rfl ?_
          refine q_isubN C dX3_image_97 (by omega) ?_
          refine q_goto C 103 dX3_image_98 (by decide) ?_
          refine q_iload C dX3_image_103 0 rfl ?_
          refine q_callVi C (As := [.int (nI pa), .int (nI ((w - 1) - ((w - 1) - rn))), .int (nI cn)]) (rest := []) (k := 19) (by omega) q_enMO rfl rfl (kX3_at l σ V G (pa := pa) (cn := (w - 1) - ((w - 1) - rn)) (rn := cn) (by omega) (by omega) (by omega)) 3 gX3_image_X3_at rfl rfl rfl (by decide +kernel) ⟨Nat.le_of_ble_eq_true rfl, Nat.le_of_ble_eq_true rfl⟩ dX3_image_105 rfl (Nat.le_of_ble_eq_true rfl) ⟨Nat.le_of_ble_eq_true rfl, Nat.le_of_ble_eq_true rfl⟩ (fun r_105 V_7 G_8 hq_105 => ?_)
          obtain ⟨rfl, rfl, rfl⟩ := hq_105
          refine hR _ _ _ _ _ _ _ ?_ rfl (Nat.le_of_ble_eq_true rfl) (Nat.le_of_ble_eq_true rfl) dX3_image_108
          refine ⟨?_, rfl, rfl⟩
          first | (simp [q_src, c_25, h4]; done) | (simp [q_src, c_45, h4]; done) | (simp [q_src, c_70, h4]; done) | (simp [q_src, e4, h4]; done)
    · skip
      have hcb : cn < w := by have h9 := hc; rw [q_ow, if_neg (by omega)] at h9; exact h9
      have hrb : rn < h := by have h9 := hr; rw [q_oh, if_neg (by omega)] at h9; exact h9
      refine q_iload C dX3_image_48 3 rfl ?_
      refine q_iconst C (nI 1) dX3_image_50 (by decide) ?_
      refine q_isubN C dX3_image_51 (by omega) ?_
      refine q_iload_n C dX3_image_52 rfl 6 rfl ?_
      refine q_isubN C dX3_image_53 (by omega) ?_
      refine q_istore C [(8, .int (nI ((w - 1) - cn))), (9, .int (nI rn)), (7, .int (nI h)), (6, .int (nI w)), (0, .ref (σ.2.1 19)), (1, .int (nI pa)), (2, .int (nI cn)), (3, .int (nI rn)), (4, .int (nI (k % 4))), (5, .int (nI (if 4 ≤ k then 1 else 0)))] dX3_image_54 (by decide) rfl ?_
      refine q_iload C dX3_image_56 2 rfl ?_
      refine q_iconst C (nI 1) dX3_image_58 (by decide) ?_
      refine q_isubN C dX3_image_59 (by omega) ?_
      refine q_iload_n C dX3_image_60 rfl 7 rfl ?_
      refine q_isubN C dX3_image_61 (by omega) ?_
      refine q_istore C [(9, .int (nI ((h - 1) - rn))), (8, .int (nI ((w - 1) - cn))), (7, .int (nI h)), (6, .int (nI w)), (0, .ref (σ.2.1 19)), (1, .int (nI pa)), (2, .int (nI cn)), (3, .int (nI rn)), (4, .int (nI (k % 4))), (5, .int (nI (if 4 ≤ k then 1 else 0)))] dX3_image_62 (by decide) rfl ?_
      refine q_goto C 84 dX3_image_64 (by decide) ?_
      refine q_aload_n C dX3_image_84 rfl 4 rfl ?_
      refine q_iload_n C dX3_image_85 rfl 5 rfl ?_
      refine q_iload C dX3_image_86 9 rfl ?_
      refine q_if_eqN C 101 dX3_image_88 (by decide) (by split <;> omega) (fun c_88 => ?_) (fun c_88 => ?_)
      · skip
        have h4 : ¬ 4 ≤ k := fun z => by rw [if_pos z] at c_88; exact absurd c_88 (by decide)
        refine q_iload C dX3_image_101 1 rfl ?_
        refine q_iload C dX3_image_103 0 rfl ?_
        refine q_callVi C (As := [.int (nI pa), .int (nI ((w - 1) - cn)), .int (nI ((h - 1) - rn))]) (rest := []) (k := 19) (by omega) q_enMO rfl rfl (kX3_at l σ V G (pa := pa) (cn := (w - 1) - cn) (rn := (h - 1) - rn) (by omega) (by omega) (by omega)) 3 gX3_image_X3_at rfl rfl rfl (by decide +kernel) ⟨Nat.le_of_ble_eq_true rfl, Nat.le_of_ble_eq_true rfl⟩ dX3_image_105 rfl (Nat.le_of_ble_eq_true rfl) ⟨Nat.le_of_ble_eq_true rfl, Nat.le_of_ble_eq_true rfl⟩ (fun r_105 V_9 G_10 hq_105 => ?_)
        obtain ⟨rfl, rfl, rfl⟩ := hq_105
        refine hR _ _ _ _ _ _ _ ?_ rfl (Nat.le_of_ble_eq_true rfl) (Nat.le_of_ble_eq_true rfl) dX3_image_108
        refine ⟨?_, rfl, rfl⟩
        first | (simp [q_src, c_25, h4]; done) | (simp [q_src, c_45, h4]; done) | (simp [q_src, c_70, h4]; done) | (simp [q_src, e4, h4]; done)
      · skip
        have h4 : 4 ≤ k := Decidable.byContradiction fun z => c_88 (by rw [if_neg z])
        refine q_iload C dX3_image_91 3 rfl ?_
        refine q_iconst C (nI 1) dX3_image_93 (by decide) ?_
        refine q_isubN C dX3_image_94 (by omega) ?_
        refine q_iload C dX3_image_95 1 rfl ?_
        refine q_isubN C dX3_image_97 (by omega) ?_
        refine q_goto C 103 dX3_image_98 (by decide) ?_
        refine q_iload C dX3_image_103 0 rfl ?_
        refine q_callVi C (As := [.int (nI pa), .int (nI ((w - 1) - ((w - 1) - cn))), .int (nI ((h - 1) - rn))]) (rest := []) (k := 19) (by omega) q_enMO rfl rfl (kX3_at l σ V G (pa := pa) (cn := (w - 1) - ((w - 1) - cn)) (rn := (h - 1) - rn) (by omega) (by omega) (by omega)) 3 gX3_image_X3_at rfl rfl rfl (by decide +kernel) ⟨Nat.le_of_ble_eq_true rfl, Nat.le_of_ble_eq_true rfl⟩ dX3_image_105 rfl (Nat.le_of_ble_eq_true rfl) ⟨Nat.le_of_ble_eq_true rfl, Nat.le_of_ble_eq_true rfl⟩ (fun r_105 V_11 G_12 hq_105 => ?_)
        obtain ⟨rfl, rfl, rfl⟩ := hq_105
        refine hR _ _ _ _ _ _ _ ?_ rfl (Nat.le_of_ble_eq_true rfl) (Nat.le_of_ble_eq_true rfl) dX3_image_108
        refine ⟨?_, rfl, rfl⟩
        first | (simp [q_src, c_25, h4]; done) | (simp [q_src, c_45, h4]; done) | (simp [q_src, c_70, h4]; done) | (simp [q_src, e4, h4]; done)
  · skip
    have hcb : cn < h := by have h9 := hc; rw [q_ow, if_pos (by omega)] at h9; exact h9
    have hrb : rn < w := by have h9 := hr; rw [q_oh, if_pos (by omega)] at h9; exact h9
    refine q_iload_n C dX3_image_28 rfl 7 rfl ?_
    refine q_istore C [(8, .int (nI rn)), (9, .int (nI rn)), (7, .int (nI h)), (6, .int (nI w)), (0, .ref (σ.2.1 19)), (1, .int (nI pa)), (2, .int (nI cn)), (3, .int (nI rn)), (4, .int (nI (k % 4))), (5, .int (nI (if 4 ≤ k then 1 else 0)))] dX3_image_29 (by decide) rfl ?_
    refine q_iload C dX3_image_31 2 rfl ?_
    refine q_iconst C (nI 1) dX3_image_33 (by decide) ?_
    refine q_isubN C dX3_image_34 (by omega) ?_
    refine q_iload_n C dX3_image_35 rfl 6 rfl ?_
    refine q_isubN C dX3_image_36 (by omega) ?_
    refine q_istore C [(9, .int (nI ((h - 1) - cn))), (8, .int (nI rn)), (7, .int (nI h)), (6, .int (nI w)), (0, .ref (σ.2.1 19)), (1, .int (nI pa)), (2, .int (nI cn)), (3, .int (nI rn)), (4, .int (nI (k % 4))), (5, .int (nI (if 4 ≤ k then 1 else 0)))] dX3_image_37 (by decide) rfl ?_
    refine q_goto C 84 dX3_image_39 (by decide) ?_
    refine q_aload_n C dX3_image_84 rfl 4 rfl ?_
    refine q_iload_n C dX3_image_85 rfl 5 rfl ?_
    refine q_iload C dX3_image_86 9 rfl ?_
    refine q_if_eqN C 101 dX3_image_88 (by decide) (by split <;> omega) (fun c_88 => ?_) (fun c_88 => ?_)
    · skip
      have h4 : ¬ 4 ≤ k := fun z => by rw [if_pos z] at c_88; exact absurd c_88 (by decide)
      refine q_iload C dX3_image_101 1 rfl ?_
      refine q_iload C dX3_image_103 0 rfl ?_
      refine q_callVi C (As := [.int (nI pa), .int (nI rn), .int (nI ((h - 1) - cn))]) (rest := []) (k := 19) (by omega) q_enMO rfl rfl (kX3_at l σ V G (pa := pa) (cn := rn) (rn := (h - 1) - cn) (by omega) (by omega) (by omega)) 3 gX3_image_X3_at rfl rfl rfl (by decide +kernel) ⟨Nat.le_of_ble_eq_true rfl, Nat.le_of_ble_eq_true rfl⟩ dX3_image_105 rfl (Nat.le_of_ble_eq_true rfl) ⟨Nat.le_of_ble_eq_true rfl, Nat.le_of_ble_eq_true rfl⟩ (fun r_105 V_13 G_14 hq_105 => ?_)
      obtain ⟨rfl, rfl, rfl⟩ := hq_105
      refine hR _ _ _ _ _ _ _ ?_ rfl (Nat.le_of_ble_eq_true rfl) (Nat.le_of_ble_eq_true rfl) dX3_image_108
      refine ⟨?_, rfl, rfl⟩
      first | (simp [q_src, c_25, h4]; done) | (simp [q_src, c_45, h4]; done) | (simp [q_src, c_70, h4]; done) | (simp [q_src, e4, h4]; done)
    · skip
      have h4 : 4 ≤ k := Decidable.byContradiction fun z => c_88 (by rw [if_neg z])
      refine q_iload C dX3_image_91 3 rfl ?_
      refine q_iconst C (nI 1) dX3_image_93 (by decide) ?_
      refine q_isubN C dX3_image_94 (by omega) ?_
      refine q_iload C dX3_image_95 1 rfl ?_
      refine q_isubN C dX3_image_97 (by omega) ?_
      refine q_goto C 103 dX3_image_98 (by decide) ?_
      refine q_iload C dX3_image_103 0 rfl ?_
      refine q_callVi C (As := [.int (nI pa), .int (nI ((w - 1) - rn)), .int (nI ((h - 1) - cn))]) (rest := []) (k := 19) (by omega) q_enMO rfl rfl (kX3_at l σ V G (pa := pa) (cn := (w - 1) - rn) (rn := (h - 1) - cn) (by omega) (by omega) (by omega)) 3 gX3_image_X3_at rfl rfl rfl (by decide +kernel) ⟨Nat.le_of_ble_eq_true rfl, Nat.le_of_ble_eq_true rfl⟩ dX3_image_105 rfl (Nat.le_of_ble_eq_true rfl) ⟨Nat.le_of_ble_eq_true rfl, Nat.le_of_ble_eq_true rfl⟩ (fun r_105 V_15 G_16 hq_105 => ?_)
      obtain ⟨rfl, rfl, rfl⟩ := hq_105
      refine hR _ _ _ _ _ _ _ ?_ rfl (Nat.le_of_ble_eq_true rfl) (Nat.le_of_ble_eq_true rfl) dX3_image_108
      refine ⟨?_, rfl, rfl⟩
      first | (simp [q_src, c_25, h4]; done) | (simp [q_src, c_45, h4]; done) | (simp [q_src, c_70, h4]; done) | (simp [q_src, e4, h4]; done)
abbrev rX3_isImage : Room := { frames := 3, cells := 0, slots := 0, locals := 64 }
theorem iX3_isImage_X3 : ∀ w ∈ u_ws RX3 TX3 26, w ∈ wsX3_isImage := by decide +kernel
set_option maxHeartbeats 4000000 in
set_option maxRecDepth 100000 in
/-- isImage -/
theorem kX3_isImage (l : Launch) (σ : q_E) (V : q_V) (G : q_G) {o w h pb w2 h2 : Nat} (ho : o < 12) (hm : q_mok V o w h) (hpb : pb < 12) (hm2 : q_mok V pb w2 h2) {k : Nat} (hk : k < 8) : q_Mi l yX3_isImage wsX3_isImage rX3_isImage σ [.ref (σ.2.1 19), .int (nI pb), .int (nI o), .int (nI (k % 4)), .int (nI (if 4 ≤ k then 1 else 0))] V G (fun r V' G' => q_is (q_malike V o w h k pb w2 h2) r ∧ V = V' ∧ G = G') 0 0 := by
  refine q_Mi_of (cc := cX3_isImage) (maxL := 9) (lv := [(0, .ref (σ.2.1 19)), (1, .int (nI pb)), (2, .int (nI o)), (3, .int (nI (k % 4))), (4, .int (nI (if 4 ≤ k then 1 else 0)))]) (by decide +kernel) rfl (Nat.le_of_ble_eq_true rfl) rfl ?_
  intro p e s m args below meth c Q C hR
  obtain ⟨hmw, hmh, hw1, hw8, hh1, hh6⟩ := id hm
  obtain ⟨hmw2, hmh2, hw21, hw28, hh21, hh26⟩ := id hm2
  obtain ⟨hO1, hO2, hO3, hO4, hO5⟩ := q_owoh k hw1 hw8 hh1 hh6
  have J_1 : ∀ (wd hd : Nat) (ewd : wd = q_ow k w h) (ehd : hd = q_oh k w h), q_W σ p l e rX3_isImage s m args below meth c Q 9 0 0 V G [(5, .int (nI wd)), (6, .int (nI hd)), (0, .ref (σ.2.1 19)), (1, .int (nI pb)), (2, .int (nI o)), (3, .int (nI (k % 4))), (4, .int (nI (if 4 ≤ k then 1 else 0)))] 46 [] := by
    intro wd hd ewd ehd
    subst ewd; subst ehd
    have J_2 : ∀ (z : Int32) (hz : (z = 1 ∧ w2 = q_ow k w h ∧ h2 = q_oh k w h) ∨ (z = 0 ∧ ¬ q_malike V o w h k pb w2 h2)), q_W σ p l e rX3_isImage s m args below meth c Q 9 0 0 V G [(7, .int z), (0, .ref (σ.2.1 19)), (1, .int (nI pb)), (2, .int (nI o)), (3, .int (nI (k % 4))), (4, .int (nI (if 4 ≤ k then 1 else 0))), (5, .int (nI (q_ow k w h))), (6, .int (nI (q_oh k w h)))] 75 [] := by
      intro z hz
      refine q_iconst C (nI 0) dX3_isImage_75 (by decide) ?_
      refine q_istore C [(8, .int (nI 0)), (7, .int z), (0, .ref (σ.2.1 19)), (1, .int (nI pb)), (2, .int (nI o)), (3, .int (nI (k % 4))), (4, .int (nI (if 4 ≤ k then 1 else 0))), (5, .int (nI (q_ow k w h))), (6, .int (nI (q_oh k w h)))] dX3_isImage_76 (by decide) rfl ?_
      have L_3 : ∀ (nL_3 : Nat) (j : Nat) (z : Int32) (hj : j ≤ q_ow k w h * q_oh k w h) (hz : (z = 1 ∧ w2 = q_ow k w h ∧ h2 = q_oh k w h ∧ ∀ t, t < j → q_meq V o w h k pb t) ∨ (z = 0 ∧ ¬ q_malike V o w h k pb w2 h2)), q_ow k w h * q_oh k w h - j < nL_3 → q_W σ p l e rX3_isImage s m args below meth c Q 9 0 0 V G [(7, .int z), (8, .int (nI j)), (0, .ref (σ.2.1 19)), (1, .int (nI pb)), (2, .int (nI o)), (3, .int (nI (k % 4))), (4, .int (nI (if 4 ≤ k then 1 else 0))), (5, .int (nI (q_ow k w h))), (6, .int (nI (q_oh k w h)))] 78 [] := by
        intro nL_3
        induction nL_3 with
        | zero => intro j z hj hz h; exact absurd h (Nat.not_lt_zero _)
        | succ nL_3 ihL_3 =>
          intro j z hj hz hmL_3
          refine q_iload C dX3_isImage_78 1 rfl ?_
          refine q_iload C dX3_isImage_80 7 rfl ?_
          refine q_iload C dX3_isImage_82 8 rfl ?_
          refine q_imulN C dX3_isImage_84  ?_
          refine q_icmp_geN C 142 dX3_isImage_85 (by decide) (by omega) (by omega) (fun c_85 => ?_) (fun c_85 => ?_)
          · skip
            refine q_iload C dX3_isImage_142 0 rfl ?_
            refine hR _ _ _ _ _ _ _ ?_ (by rcases hz with ⟨rfl, -⟩ | ⟨rfl, -⟩ <;> rfl) (Nat.le_of_ble_eq_true rfl) (Nat.le_of_ble_eq_true rfl) dX3_isImage_144
            refine ⟨?_, rfl, rfl⟩
            rcases hz with ⟨h0, h1, h2, h3⟩ | ⟨h0, h1⟩
            · rw [h0]; first | exact q_is_y ⟨h1, h2, fun t ht => h3 t (by omega)⟩ | exact absurd c_90 (by rw [h0]; decide)
            · rw [h0]; exact q_is_n h1
          · skip
            have hd1 := q_div_lt c_85 (by omega : 0 < q_ow k w h)
            have hd2 := q_mod_lt (k := j) (by omega : 0 < q_ow k w h)
            refine q_iload C dX3_isImage_88 0 rfl ?_
            refine q_if_eq C 142 dX3_isImage_90 (by decide) (fun c_90 => ?_) (fun c_90 => ?_)
            · skip
              have hz3 := hz.resolve_left (fun q => by rw [q.1] at c_90; exact absurd c_90 (by decide))
              refine q_iload C dX3_isImage_142 0 rfl ?_
              refine hR _ _ _ _ _ _ _ ?_ (by rcases hz with ⟨rfl, -⟩ | ⟨rfl, -⟩ <;> rfl) (Nat.le_of_ble_eq_true rfl) (Nat.le_of_ble_eq_true rfl) dX3_isImage_144
              refine ⟨?_, rfl, rfl⟩
              rcases hz with ⟨h0, h1, h2, h3⟩ | ⟨h0, h1⟩
              · rw [h0]; first | exact q_is_y ⟨h1, h2, fun t ht => h3 t (by omega)⟩ | exact absurd c_90 (by rw [h0]; decide)
              · rw [h0]; exact q_is_n h1
            · skip
              have hz2 := hz.resolve_right (fun q => c_90 q.1)
              refine q_aload_n C dX3_isImage_93 rfl 2 rfl ?_
              refine q_iload_n C dX3_isImage_94 rfl 3 rfl ?_
              refine q_iload C dX3_isImage_95 1 rfl ?_
              refine q_iload C dX3_isImage_97 7 rfl ?_
              refine q_iremN C dX3_isImage_99 (by omega) (by omega) (by omega) ?_
              refine q_iload C dX3_isImage_100 1 rfl ?_
              refine q_iload C dX3_isImage_102 7 rfl ?_
              refine q_idivN C dX3_isImage_104 (by omega) (by omega) (by omega) ?_
              refine q_callVi C (As := [.int (nI pb), .int (nI (j % (q_ow k w h))), .int (nI (j / (q_ow k w h)))]) (rest := []) (k := 19) (by omega) q_enMO rfl rfl (kX3_at l σ V G (pa := pb) (cn := j % (q_ow k w h)) (rn := j / (q_ow k w h)) (by omega) (by omega) (by omega)) 3 gX3_isImage_X3_at rfl rfl rfl (by decide +kernel) ⟨Nat.le_of_ble_eq_true rfl, Nat.le_of_ble_eq_true rfl⟩ dX3_isImage_105 rfl (Nat.le_of_ble_eq_true rfl) ⟨Nat.le_of_ble_eq_true rfl, Nat.le_of_ble_eq_true rfl⟩ (fun r_105 V_4 G_5 hq_105 => ?_)
              obtain ⟨rfl, rfl, rfl⟩ := hq_105
              refine q_aload_n C dX3_isImage_108 rfl 2 rfl ?_
              refine q_iload_n C dX3_isImage_109 rfl 4 rfl ?_
              refine q_iload C dX3_isImage_110 1 rfl ?_
              refine q_iload C dX3_isImage_112 7 rfl ?_
              refine q_iremN C dX3_isImage_114 (by omega) (by omega) (by omega) ?_
              refine q_iload C dX3_isImage_115 1 rfl ?_
              refine q_iload C dX3_isImage_117 7 rfl ?_
              refine q_idivN C dX3_isImage_119 (by omega) (by omega) (by omega) ?_
              refine q_iload_n C dX3_isImage_120 rfl 5 rfl ?_
              refine q_iload C dX3_isImage_121 6 rfl ?_
              refine q_callVi C (As := [.int (nI o), .int (nI (j % (q_ow k w h))), .int (nI (j / (q_ow k w h))), .int (nI (k % 4)), .int (nI (if 4 ≤ k then 1 else 0))]) (rest := [.int (V 75 (48 * pb + 8 * (j / (q_ow k w h)) + (j % (q_ow k w h))))]) (k := 19) (by omega) q_enMO rfl rfl (kX3_image l σ V G ho hm (k := k) (cn := j % (q_ow k w h)) (rn := j / (q_ow k w h)) hk (by omega) (by omega)) 5 gX3_isImage_X3_image rfl rfl rfl (by decide +kernel) ⟨Nat.le_of_ble_eq_true rfl, Nat.le_of_ble_eq_true rfl⟩ dX3_isImage_123 rfl (Nat.le_of_ble_eq_true rfl) ⟨Nat.le_of_ble_eq_true rfl, Nat.le_of_ble_eq_true rfl⟩ (fun r_123 V_6 G_7 hq_123 => ?_)
              obtain ⟨rfl, rfl, rfl⟩ := hq_123
              refine q_icmp_ne C 133 dX3_isImage_126 (by decide) (fun c_126 => ?_) (fun c_126 => ?_)
              · skip
                refine q_iconst C (nI 0) dX3_isImage_133 (by decide) ?_
                refine q_istore C [(7, .int (nI 0)), (8, .int (nI j)), (0, .ref (σ.2.1 19)), (1, .int (nI pb)), (2, .int (nI o)), (3, .int (nI (k % 4))), (4, .int (nI (if 4 ≤ k then 1 else 0))), (5, .int (nI (q_ow k w h))), (6, .int (nI (q_oh k w h)))] dX3_isImage_134 (by decide) rfl ?_
                refine q_iincN C [(8, .int (nI (j + 1))), (7, .int (nI 0)), (0, .ref (σ.2.1 19)), (1, .int (nI pb)), (2, .int (nI o)), (3, .int (nI (k % 4))), (4, .int (nI (if 4 ≤ k then 1 else 0))), (5, .int (nI (q_ow k w h))), (6, .int (nI (q_oh k w h)))] dX3_isImage_136 1 rfl (by decide) rfl ?_
                refine q_goto C 78 dX3_isImage_139 (by decide) ?_
                refine q_sub (lv' := [(7, .int (nI 0)), (8, .int (nI (j + 1))), (0, .ref (σ.2.1 19)), (1, .int (nI pb)), (2, .int (nI o)), (3, .int (nI (k % 4))), (4, .int (nI (if 4 ≤ k then 1 else 0))), (5, .int (nI (q_ow k w h))), (6, .int (nI (q_oh k w h)))]) [1, 0, 2, 3, 4, 5, 6, 7, 8] rfl ?_
                exact ihL_3 (j + 1) _ (by omega) (Or.inr ⟨rfl, fun q => c_126 (q.2.2 j c_85)⟩) (by omega)
              · skip
                refine q_iconst C (nI 1) dX3_isImage_129 (by decide) ?_
                refine q_goto C 134 dX3_isImage_130 (by decide) ?_
                refine q_istore C [(7, .int (nI 1)), (8, .int (nI j)), (0, .ref (σ.2.1 19)), (1, .int (nI pb)), (2, .int (nI o)), (3, .int (nI (k % 4))), (4, .int (nI (if 4 ≤ k then 1 else 0))), (5, .int (nI (q_ow k w h))), (6, .int (nI (q_oh k w h)))] dX3_isImage_134 (by decide) rfl ?_
                refine q_iincN C [(8, .int (nI (j + 1))), (7, .int (nI 1)), (0, .ref (σ.2.1 19)), (1, .int (nI pb)), (2, .int (nI o)), (3, .int (nI (k % 4))), (4, .int (nI (if 4 ≤ k then 1 else 0))), (5, .int (nI (q_ow k w h))), (6, .int (nI (q_oh k w h)))] dX3_isImage_136 1 rfl (by decide) rfl ?_
                refine q_goto C 78 dX3_isImage_139 (by decide) ?_
                refine q_sub (lv' := [(7, .int (nI 1)), (8, .int (nI (j + 1))), (0, .ref (σ.2.1 19)), (1, .int (nI pb)), (2, .int (nI o)), (3, .int (nI (k % 4))), (4, .int (nI (if 4 ≤ k then 1 else 0))), (5, .int (nI (q_ow k w h))), (6, .int (nI (q_oh k w h)))]) [1, 0, 2, 3, 4, 5, 6, 7, 8] rfl ?_
                exact ihL_3 (j + 1) _ (by omega) (Or.inl ⟨rfl, hz2.2.1, hz2.2.2.1, lt_s hz2.2.2.2 c_126⟩) (by omega)
      refine q_sub (lv' := [(7, .int z), (8, .int (nI 0)), (0, .ref (σ.2.1 19)), (1, .int (nI pb)), (2, .int (nI o)), (3, .int (nI (k % 4))), (4, .int (nI (if 4 ≤ k then 1 else 0))), (5, .int (nI (q_ow k w h))), (6, .int (nI (q_oh k w h)))]) [1, 0, 2, 3, 4, 5, 6, 7, 8] rfl ?_
      exact L_3 _ 0 z (Nat.zero_le _) (hz.imp (fun q => ⟨q.1, q.2.1, q.2.2, lt_0⟩) id) (Nat.lt_succ_self _)
    refine q_aload_n C dX3_isImage_46 rfl 2 rfl ?_
    refine q_get C (k := 19) (fi := 8) (.ref (σ.2.1 73)) (by omega) q_enMO rfl iX3_isImage_X3 (by decide) (by decide +kernel) rfl rfl dX3_isImage_47 ?_
    refine q_iload_n C dX3_isImage_50 rfl 3 rfl ?_
    refine q_ialdN C (k := 73) (n := 12) ⟨by decide, by decide, by decide⟩ (by omega) (by decide) dX3_isImage_51 ?_
    refine q_stk (st' := [.int (nI w2)]) (congrArg (fun z => Value.int z :: []) (hmw2)) ?_
    refine q_iload C dX3_isImage_52 0 rfl ?_
    refine q_icmp_neN C 72 dX3_isImage_54 (by decide) (by omega) (by omega) (fun c_54 => ?_) (fun c_54 => ?_)
    · skip
      refine q_iconst C (nI 0) dX3_isImage_72 (by decide) ?_
      refine q_istore C [(7, .int (nI 0)), (5, .int (nI (q_ow k w h))), (6, .int (nI (q_oh k w h))), (0, .ref (σ.2.1 19)), (1, .int (nI pb)), (2, .int (nI o)), (3, .int (nI (k % 4))), (4, .int (nI (if 4 ≤ k then 1 else 0)))] dX3_isImage_73 (by decide) rfl ?_
      refine q_sub (lv' := [(7, .int (nI 0)), (0, .ref (σ.2.1 19)), (1, .int (nI pb)), (2, .int (nI o)), (3, .int (nI (k % 4))), (4, .int (nI (if 4 ≤ k then 1 else 0))), (5, .int (nI (q_ow k w h))), (6, .int (nI (q_oh k w h)))]) [0, 3, 4, 5, 6, 7, 1, 2] rfl ?_
      exact J_2 _ (by first | exact Or.inr ⟨rfl, fun q => c_65 q.2.1⟩ | exact Or.inr ⟨rfl, fun q => c_54 q.1⟩)
    · skip
      refine q_aload_n C dX3_isImage_57 rfl 2 rfl ?_
      refine q_get C (k := 19) (fi := 9) (.ref (σ.2.1 74)) (by omega) q_enMO rfl iX3_isImage_X3 (by decide) (by decide +kernel) rfl rfl dX3_isImage_58 ?_
      refine q_iload_n C dX3_isImage_61 rfl 3 rfl ?_
      refine q_ialdN C (k := 74) (n := 12) ⟨by decide, by decide, by decide⟩ (by omega) (by decide) dX3_isImage_62 ?_
      refine q_stk (st' := [.int (nI h2)]) (congrArg (fun z => Value.int z :: []) (hmh2)) ?_
      refine q_iload C dX3_isImage_63 1 rfl ?_
      refine q_icmp_neN C 72 dX3_isImage_65 (by decide) (by omega) (by omega) (fun c_65 => ?_) (fun c_65 => ?_)
      · skip
        refine q_iconst C (nI 0) dX3_isImage_72 (by decide) ?_
        refine q_istore C [(7, .int (nI 0)), (5, .int (nI (q_ow k w h))), (6, .int (nI (q_oh k w h))), (0, .ref (σ.2.1 19)), (1, .int (nI pb)), (2, .int (nI o)), (3, .int (nI (k % 4))), (4, .int (nI (if 4 ≤ k then 1 else 0)))] dX3_isImage_73 (by decide) rfl ?_
        refine q_sub (lv' := [(7, .int (nI 0)), (0, .ref (σ.2.1 19)), (1, .int (nI pb)), (2, .int (nI o)), (3, .int (nI (k % 4))), (4, .int (nI (if 4 ≤ k then 1 else 0))), (5, .int (nI (q_ow k w h))), (6, .int (nI (q_oh k w h)))]) [0, 3, 4, 5, 6, 7, 1, 2] rfl ?_
        exact J_2 _ (by first | exact Or.inr ⟨rfl, fun q => c_65 q.2.1⟩ | exact Or.inr ⟨rfl, fun q => c_54 q.1⟩)
      · skip
        refine q_iconst C (nI 1) dX3_isImage_68 (by decide) ?_
        refine q_goto C 73 dX3_isImage_69 (by decide) ?_
        refine q_istore C [(7, .int (nI 1)), (5, .int (nI (q_ow k w h))), (6, .int (nI (q_oh k w h))), (0, .ref (σ.2.1 19)), (1, .int (nI pb)), (2, .int (nI o)), (3, .int (nI (k % 4))), (4, .int (nI (if 4 ≤ k then 1 else 0)))] dX3_isImage_73 (by decide) rfl ?_
        refine q_sub (lv' := [(7, .int (nI 1)), (0, .ref (σ.2.1 19)), (1, .int (nI pb)), (2, .int (nI o)), (3, .int (nI (k % 4))), (4, .int (nI (if 4 ≤ k then 1 else 0))), (5, .int (nI (q_ow k w h))), (6, .int (nI (q_oh k w h)))]) [0, 3, 4, 5, 6, 7, 1, 2] rfl ?_
        exact J_2 _ (Or.inl ⟨rfl, c_54, c_65⟩)
  refine q_iload_n C dX3_isImage_0 rfl 3 rfl ?_
  refine q_iconst C (nI 2) dX3_isImage_1 (by decide) ?_
  refine q_iremN C dX3_isImage_2 (by omega) (by omega) (by omega) ?_
  refine q_if_neN C 15 dX3_isImage_3 (by decide) (by omega) (fun c_3 => ?_) (fun c_3 => ?_)
  · skip
    have e9 : k % 2 = 1 := by omega
    have eow : q_ow k w h = h := if_pos e9
    have eoh : q_oh k w h = w := if_pos e9
    refine q_aload_n C dX3_isImage_15 rfl 0 rfl ?_
    refine q_get C (k := 19) (fi := 9) (.ref (σ.2.1 74)) (by omega) q_enMO rfl iX3_isImage_X3 (by decide) (by decide +kernel) rfl rfl dX3_isImage_16 ?_
    refine q_iload_n C dX3_isImage_19 rfl 2 rfl ?_
    refine q_ialdN C (k := 74) (n := 12) ⟨by decide, by decide, by decide⟩ (by omega) (by decide) dX3_isImage_20 ?_
    refine q_stk (st' := [.int (nI h)]) (congrArg (fun z => Value.int z :: []) (hmh)) ?_
    refine q_istore C [(5, .int (nI h)), (0, .ref (σ.2.1 19)), (1, .int (nI pb)), (2, .int (nI o)), (3, .int (nI (k % 4))), (4, .int (nI (if 4 ≤ k then 1 else 0)))] dX3_isImage_21 (by decide) rfl ?_
    refine q_iload_n C dX3_isImage_23 rfl 4 rfl ?_
    refine q_iconst C (nI 2) dX3_isImage_24 (by decide) ?_
    refine q_iremN C dX3_isImage_25 (by omega) (by omega) (by omega) ?_
    refine q_if_neN C 38 dX3_isImage_26 (by decide) (by omega) (fun c_26 => ?_) (fun c_26 => absurd c_26 (by omega))
    refine q_aload_n C dX3_isImage_38 rfl 1 rfl ?_
    refine q_get C (k := 19) (fi := 8) (.ref (σ.2.1 73)) (by omega) q_enMO rfl iX3_isImage_X3 (by decide) (by decide +kernel) rfl rfl dX3_isImage_39 ?_
    refine q_iload_n C dX3_isImage_42 rfl 3 rfl ?_
    refine q_ialdN C (k := 73) (n := 12) ⟨by decide, by decide, by decide⟩ (by omega) (by decide) dX3_isImage_43 ?_
    refine q_stk (st' := [.int (nI w)]) (congrArg (fun z => Value.int z :: []) (hmw)) ?_
    refine q_istore C [(6, .int (nI w)), (5, .int (nI h)), (0, .ref (σ.2.1 19)), (1, .int (nI pb)), (2, .int (nI o)), (3, .int (nI (k % 4))), (4, .int (nI (if 4 ≤ k then 1 else 0)))] dX3_isImage_44 (by decide) rfl ?_
    refine q_sub (lv' := [(5, .int (nI h)), (6, .int (nI w)), (0, .ref (σ.2.1 19)), (1, .int (nI pb)), (2, .int (nI o)), (3, .int (nI (k % 4))), (4, .int (nI (if 4 ≤ k then 1 else 0)))]) [1, 0, 2, 3, 4, 5, 6] rfl ?_
    exact J_1 _ _ eow.symm eoh.symm
  · skip
    have e9 : ¬ k % 2 = 1 := by omega
    have eow : q_ow k w h = w := if_neg e9
    have eoh : q_oh k w h = h := if_neg e9
    refine q_aload_n C dX3_isImage_6 rfl 0 rfl ?_
    refine q_get C (k := 19) (fi := 8) (.ref (σ.2.1 73)) (by omega) q_enMO rfl iX3_isImage_X3 (by decide) (by decide +kernel) rfl rfl dX3_isImage_7 ?_
    refine q_iload_n C dX3_isImage_10 rfl 2 rfl ?_
    refine q_ialdN C (k := 73) (n := 12) ⟨by decide, by decide, by decide⟩ (by omega) (by decide) dX3_isImage_11 ?_
    refine q_stk (st' := [.int (nI w)]) (congrArg (fun z => Value.int z :: []) (hmw)) ?_
    refine q_goto C 21 dX3_isImage_12 (by decide) ?_
    refine q_istore C [(5, .int (nI w)), (0, .ref (σ.2.1 19)), (1, .int (nI pb)), (2, .int (nI o)), (3, .int (nI (k % 4))), (4, .int (nI (if 4 ≤ k then 1 else 0)))] dX3_isImage_21 (by decide) rfl ?_
    refine q_iload_n C dX3_isImage_23 rfl 4 rfl ?_
    refine q_iconst C (nI 2) dX3_isImage_24 (by decide) ?_
    refine q_iremN C dX3_isImage_25 (by omega) (by omega) (by omega) ?_
    refine q_if_neN C 38 dX3_isImage_26 (by decide) (by omega) (fun c_26 => absurd c_26 (by omega)) (fun c_26 => ?_)
    refine q_aload_n C dX3_isImage_29 rfl 1 rfl ?_
    refine q_get C (k := 19) (fi := 9) (.ref (σ.2.1 74)) (by omega) q_enMO rfl iX3_isImage_X3 (by decide) (by decide +kernel) rfl rfl dX3_isImage_30 ?_
    refine q_iload_n C dX3_isImage_33 rfl 3 rfl ?_
    refine q_ialdN C (k := 74) (n := 12) ⟨by decide, by decide, by decide⟩ (by omega) (by decide) dX3_isImage_34 ?_
    refine q_stk (st' := [.int (nI h)]) (congrArg (fun z => Value.int z :: []) (hmh)) ?_
    refine q_goto C 44 dX3_isImage_35 (by decide) ?_
    refine q_istore C [(6, .int (nI h)), (5, .int (nI w)), (0, .ref (σ.2.1 19)), (1, .int (nI pb)), (2, .int (nI o)), (3, .int (nI (k % 4))), (4, .int (nI (if 4 ≤ k then 1 else 0)))] dX3_isImage_44 (by decide) rfl ?_
    refine q_sub (lv' := [(5, .int (nI w)), (6, .int (nI h)), (0, .ref (σ.2.1 19)), (1, .int (nI pb)), (2, .int (nI o)), (3, .int (nI (k % 4))), (4, .int (nI (if 4 ≤ k then 1 else 0)))]) [1, 0, 2, 3, 4, 5, 6] rfl ?_
    exact J_1 _ _ eow.symm eoh.symm
end
section
abbrev rX3_standsAt : Room := { frames := 2, cells := 0, slots := 0, locals := 35 }
theorem iX3_standsAt_X3 : ∀ w ∈ u_ws RX3 TX3 26, w ∈ wsX3_standsAt := by decide +kernel
set_option maxHeartbeats 4000000 in
set_option maxRecDepth 100000 in
/-- standsAt -/
theorem kX3_standsAt (l : Launch) (σ : q_E) (V : q_V) (G : q_G) {t pa w h sw sh : Nat} (ht : t < 8) (hs : q_sok V t sw sh) (hp : pa < 12) (hm : q_mok V pa w h) {cn rn : Nat} (hc : cn < 8) (hr : rn < 6) : q_Mi l yX3_standsAt wsX3_standsAt rX3_standsAt σ [.ref (σ.2.1 19), .int (nI t), .int (nI pa), .int (nI cn), .int (nI rn)] V G (fun r V' G' => q_is (q_mstands V t pa w h sw sh cn rn) r ∧ V = V' ∧ G = G') 0 0 := by
  refine q_Mi_of (cc := cX3_standsAt) (maxL := 8) (lv := [(0, .ref (σ.2.1 19)), (1, .int (nI t)), (2, .int (nI pa)), (3, .int (nI cn)), (4, .int (nI rn))]) (by decide +kernel) rfl (Nat.le_of_ble_eq_true rfl) rfl ?_
  intro p e s m args below meth c Q C hR
  obtain ⟨hmw, hmh, hw1, hw8, hh1, hh6⟩ := id hm
  have hwh : w * h ≤ 48 := Nat.mul_le_mul hw8 hh6
  obtain ⟨hsw, hsh, hs1, hs3, ht1, ht3⟩ := id hs
  have hss : sw * sh ≤ 9 := Nat.mul_le_mul hs3 ht3
  refine q_aload_n C dX3_standsAt_0 rfl 0 rfl ?_
  refine q_get C (k := 19) (fi := 21) (.ref (σ.2.1 85)) (by omega) q_enMO rfl iX3_standsAt_X3 (by decide) (by decide +kernel) rfl rfl dX3_standsAt_1 ?_
  refine q_iload_n C dX3_standsAt_4 rfl 1 rfl ?_
  refine q_ialdN C (k := 85) (n := 8) ⟨by decide, by decide, by decide⟩ (by omega) (by decide) dX3_standsAt_5 ?_
  refine q_stk (st' := [.int (nI sw)]) (congrArg (fun z => Value.int z :: []) (hsw)) ?_
  refine q_istore C [(5, .int (nI sw)), (0, .ref (σ.2.1 19)), (1, .int (nI t)), (2, .int (nI pa)), (3, .int (nI cn)), (4, .int (nI rn))] dX3_standsAt_6 (by decide) rfl ?_
  have J_1 : ∀ (z : Int32) (hz : (z = 1 ∧ cn + sw ≤ w ∧ rn + sh ≤ h) ∨ (z = 0 ∧ ¬ q_mstands V t pa w h sw sh cn rn)), q_W σ p l e rX3_standsAt s m args below meth c Q 8 0 0 V G [(6, .int z), (0, .ref (σ.2.1 19)), (1, .int (nI t)), (2, .int (nI pa)), (3, .int (nI cn)), (4, .int (nI rn)), (5, .int (nI sw))] 46 [] := by
    intro z hz
    refine q_iconst C (nI 0) dX3_standsAt_46 (by decide) ?_
    refine q_istore C [(7, .int (nI 0)), (6, .int z), (0, .ref (σ.2.1 19)), (1, .int (nI t)), (2, .int (nI pa)), (3, .int (nI cn)), (4, .int (nI rn)), (5, .int (nI sw))] dX3_standsAt_47 (by decide) rfl ?_
    have L_2 : ∀ (nL_2 : Nat) (j : Nat) (z : Int32) (hj : j ≤ sw * sh) (hz : (z = 1 ∧ cn + sw ≤ w ∧ rn + sh ≤ h ∧ ∀ k, k < j → q_mseq V t pa sw cn rn k) ∨ (z = 0 ∧ ¬ q_mstands V t pa w h sw sh cn rn)), sw * sh - j < nL_2 → q_W σ p l e rX3_standsAt s m args below meth c Q 8 0 0 V G [(6, .int z), (7, .int (nI j)), (0, .ref (σ.2.1 19)), (1, .int (nI t)), (2, .int (nI pa)), (3, .int (nI cn)), (4, .int (nI rn)), (5, .int (nI sw))] 49 [] := by
      intro nL_2
      induction nL_2 with
      | zero => intro j z hj hz h; exact absurd h (Nat.not_lt_zero _)
      | succ nL_2 ihL_2 =>
        intro j z hj hz hmL_2
        refine q_iload C dX3_standsAt_49 1 rfl ?_
        refine q_iload C dX3_standsAt_51 7 rfl ?_
        refine q_aload_n C dX3_standsAt_53 rfl 2 rfl ?_
        refine q_get C (k := 19) (fi := 22) (.ref (σ.2.1 86)) (by omega) q_enMO rfl iX3_standsAt_X3 (by decide) (by decide +kernel) rfl rfl dX3_standsAt_54 ?_
        refine q_iload_n C dX3_standsAt_57 rfl 3 rfl ?_
        refine q_ialdN C (k := 86) (n := 8) ⟨by decide, by decide, by decide⟩ (by omega) (by decide) dX3_standsAt_58 ?_
        refine q_stk (st' := [.int (nI sh), .int (nI sw), .int (nI j)]) (congrArg (fun z => Value.int z :: [.int (nI sw), .int (nI j)]) (hsh)) ?_
        refine q_imulN C dX3_standsAt_59  ?_
        refine q_icmp_geN C 116 dX3_standsAt_60 (by decide) (by omega) (by omega) (fun c_60 => ?_) (fun c_60 => ?_)
        · skip
          refine q_iload C dX3_standsAt_116 0 rfl ?_
          refine hR _ _ _ _ _ _ _ ?_ (by rcases hz with ⟨rfl, -⟩ | ⟨rfl, -⟩ <;> rfl) (Nat.le_of_ble_eq_true rfl) (Nat.le_of_ble_eq_true rfl) dX3_standsAt_118
          refine ⟨?_, rfl, rfl⟩
          rcases hz with ⟨h0, h1, h2, h3⟩ | ⟨h0, h1⟩
          · rw [h0]; first | exact q_is_y ⟨h1, h2, fun t ht => h3 t (by omega)⟩ | exact absurd c_65 (by rw [h0]; decide)
          · rw [h0]; exact q_is_n h1
        · skip
          have hd1 := q_div_lt c_60 (by omega : 0 < sw)
          have hd2 := q_mod_lt (k := j) (by omega : 0 < sw)
          refine q_iload C dX3_standsAt_63 0 rfl ?_
          refine q_if_eq C 116 dX3_standsAt_65 (by decide) (fun c_65 => ?_) (fun c_65 => ?_)
          · skip
            refine q_iload C dX3_standsAt_116 0 rfl ?_
            refine hR _ _ _ _ _ _ _ ?_ (by rcases hz with ⟨rfl, -⟩ | ⟨rfl, -⟩ <;> rfl) (Nat.le_of_ble_eq_true rfl) (Nat.le_of_ble_eq_true rfl) dX3_standsAt_118
            refine ⟨?_, rfl, rfl⟩
            rcases hz with ⟨h0, h1, h2, h3⟩ | ⟨h0, h1⟩
            · rw [h0]; first | exact q_is_y ⟨h1, h2, fun t ht => h3 t (by omega)⟩ | exact absurd c_65 (by rw [h0]; decide)
            · rw [h0]; exact q_is_n h1
          · skip
            have hz2 := hz.resolve_right (fun q => c_65 q.1)
            have hq8 := hz2.2.1
            have hq9 := hz2.2.2.1
            refine q_aload_n C dX3_standsAt_68 rfl 2 rfl ?_
            refine q_get C (k := 19) (fi := 23) (.ref (σ.2.1 87)) (by omega) q_enMO rfl iX3_standsAt_X3 (by decide) (by decide +kernel) rfl rfl dX3_standsAt_69 ?_
            refine q_bipush C (nI 9) dX3_standsAt_72 (by decide) ?_
            refine q_iload_n C dX3_standsAt_74 rfl 3 rfl ?_
            refine q_imulN C dX3_standsAt_75  ?_
            refine q_iload C dX3_standsAt_76 1 rfl ?_
            refine q_iaddN C dX3_standsAt_78  ?_
            refine q_ialdN C (k := 87) (n := 72) ⟨by decide, by decide, by decide⟩ (by omega) (by decide) dX3_standsAt_79 ?_
            refine q_aload_n C dX3_standsAt_80 rfl 2 rfl ?_
            refine q_iload_n C dX3_standsAt_81 rfl 4 rfl ?_
            refine q_iload_n C dX3_standsAt_82 rfl 5 rfl ?_
            refine q_iload C dX3_standsAt_83 1 rfl ?_
            refine q_iload C dX3_standsAt_85 7 rfl ?_
            refine q_iremN C dX3_standsAt_87 (by omega) (by omega) (by omega) ?_
            refine q_iaddN C dX3_standsAt_88  ?_
            refine q_iload C dX3_standsAt_89 6 rfl ?_
            refine q_iload C dX3_standsAt_91 1 rfl ?_
            refine q_iload C dX3_standsAt_93 7 rfl ?_
            refine q_idivN C dX3_standsAt_95 (by omega) (by omega) (by omega) ?_
            refine q_iaddN C dX3_standsAt_96  ?_
            refine q_callVi C (As := [.int (nI pa), .int (nI (cn + (j % sw))), .int (nI (rn + (j / sw)))]) (rest := [.int (V 87 ((9 * t) + j))]) (k := 19) (by omega) q_enMO rfl rfl (kX3_at l σ V G (pa := pa) (cn := cn + (j % sw)) (rn := rn + (j / sw)) (by omega) (by omega) (by omega)) 3 gX3_standsAt_X3_at rfl rfl rfl (by decide +kernel) ⟨Nat.le_of_ble_eq_true rfl, Nat.le_of_ble_eq_true rfl⟩ dX3_standsAt_97 rfl (Nat.le_of_ble_eq_true rfl) ⟨Nat.le_of_ble_eq_true rfl, Nat.le_of_ble_eq_true rfl⟩ (fun r_97 V_3 G_4 hq_97 => ?_)
            obtain ⟨rfl, rfl, rfl⟩ := hq_97
            refine q_icmp_ne C 107 dX3_standsAt_100 (by decide) (fun c_100 => ?_) (fun c_100 => ?_)
            · skip
              refine q_iconst C (nI 0) dX3_standsAt_107 (by decide) ?_
              refine q_istore C [(6, .int (nI 0)), (7, .int (nI j)), (0, .ref (σ.2.1 19)), (1, .int (nI t)), (2, .int (nI pa)), (3, .int (nI cn)), (4, .int (nI rn)), (5, .int (nI sw))] dX3_standsAt_108 (by decide) rfl ?_
              refine q_iincN C [(7, .int (nI (j + 1))), (6, .int (nI 0)), (0, .ref (σ.2.1 19)), (1, .int (nI t)), (2, .int (nI pa)), (3, .int (nI cn)), (4, .int (nI rn)), (5, .int (nI sw))] dX3_standsAt_110 1 rfl (by decide) rfl ?_
              refine q_goto C 49 dX3_standsAt_113 (by decide) ?_
              refine q_sub (lv' := [(6, .int (nI 0)), (7, .int (nI (j + 1))), (0, .ref (σ.2.1 19)), (1, .int (nI t)), (2, .int (nI pa)), (3, .int (nI cn)), (4, .int (nI rn)), (5, .int (nI sw))]) [1, 0, 2, 3, 4, 5, 6, 7] rfl ?_
              exact ihL_2 (j + 1) _ (by omega) (Or.inr ⟨rfl, fun q => c_100 (q.2.2 j c_60)⟩) (by omega)
            · skip
              refine q_iconst C (nI 1) dX3_standsAt_103 (by decide) ?_
              refine q_goto C 108 dX3_standsAt_104 (by decide) ?_
              refine q_istore C [(6, .int (nI 1)), (7, .int (nI j)), (0, .ref (σ.2.1 19)), (1, .int (nI t)), (2, .int (nI pa)), (3, .int (nI cn)), (4, .int (nI rn)), (5, .int (nI sw))] dX3_standsAt_108 (by decide) rfl ?_
              refine q_iincN C [(7, .int (nI (j + 1))), (6, .int (nI 1)), (0, .ref (σ.2.1 19)), (1, .int (nI t)), (2, .int (nI pa)), (3, .int (nI cn)), (4, .int (nI rn)), (5, .int (nI sw))] dX3_standsAt_110 1 rfl (by decide) rfl ?_
              refine q_goto C 49 dX3_standsAt_113 (by decide) ?_
              refine q_sub (lv' := [(6, .int (nI 1)), (7, .int (nI (j + 1))), (0, .ref (σ.2.1 19)), (1, .int (nI t)), (2, .int (nI pa)), (3, .int (nI cn)), (4, .int (nI rn)), (5, .int (nI sw))]) [1, 0, 2, 3, 4, 5, 6, 7] rfl ?_
              exact ihL_2 (j + 1) _ (by omega) (Or.inl ⟨rfl, hz2.2.1, hz2.2.2.1, lt_s hz2.2.2.2 c_100⟩) (by omega)
    refine q_sub (lv' := [(6, .int z), (7, .int (nI 0)), (0, .ref (σ.2.1 19)), (1, .int (nI t)), (2, .int (nI pa)), (3, .int (nI cn)), (4, .int (nI rn)), (5, .int (nI sw))]) [1, 0, 2, 3, 4, 5, 6, 7] rfl ?_
    exact L_2 _ 0 z (Nat.zero_le _) (hz.imp (fun q => ⟨q.1, q.2.1, q.2.2, lt_0⟩) id) (Nat.lt_succ_self _)
  refine q_iload_n C dX3_standsAt_8 rfl 4 rfl ?_
  refine q_iload C dX3_standsAt_9 0 rfl ?_
  refine q_iaddN C dX3_standsAt_11  ?_
  refine q_aload_n C dX3_standsAt_12 rfl 1 rfl ?_
  refine q_get C (k := 19) (fi := 8) (.ref (σ.2.1 73)) (by omega) q_enMO rfl iX3_standsAt_X3 (by decide) (by decide +kernel) rfl rfl dX3_standsAt_13 ?_
  refine q_iload_n C dX3_standsAt_16 rfl 3 rfl ?_
  refine q_ialdN C (k := 73) (n := 12) ⟨by decide, by decide, by decide⟩ (by omega) (by decide) dX3_standsAt_17 ?_
  refine q_stk (st' := [.int (nI w), .int (nI (cn + sw))]) (congrArg (fun z => Value.int z :: [.int (nI (cn + sw))]) (hmw)) ?_
  refine q_icmp_gtN C 43 dX3_standsAt_18 (by decide) (by omega) (by omega) (fun c_18 => ?_) (fun c_18 => ?_)
  · skip
    refine q_iconst C (nI 0) dX3_standsAt_43 (by decide) ?_
    refine q_istore C [(6, .int (nI 0)), (5, .int (nI sw)), (0, .ref (σ.2.1 19)), (1, .int (nI t)), (2, .int (nI pa)), (3, .int (nI cn)), (4, .int (nI rn))] dX3_standsAt_44 (by decide) rfl ?_
    refine q_sub (lv' := [(6, .int (nI 0)), (0, .ref (σ.2.1 19)), (1, .int (nI t)), (2, .int (nI pa)), (3, .int (nI cn)), (4, .int (nI rn)), (5, .int (nI sw))]) [0, 2, 3, 4, 5, 6, 1] rfl ?_
    exact J_1 _ (by first | exact Or.inr ⟨rfl, fun q => Nat.not_lt.mpr q.2.1 c_36⟩ | exact Or.inr ⟨rfl, fun q => Nat.not_lt.mpr q.1 c_18⟩)
  · skip
    refine q_iload C dX3_standsAt_21 5 rfl ?_
    refine q_aload_n C dX3_standsAt_23 rfl 1 rfl ?_
    refine q_get C (k := 19) (fi := 22) (.ref (σ.2.1 86)) (by omega) q_enMO rfl iX3_standsAt_X3 (by decide) (by decide +kernel) rfl rfl dX3_standsAt_24 ?_
    refine q_iload_n C dX3_standsAt_27 rfl 2 rfl ?_
    refine q_ialdN C (k := 86) (n := 8) ⟨by decide, by decide, by decide⟩ (by omega) (by decide) dX3_standsAt_28 ?_
    refine q_stk (st' := [.int (nI sh), .int (nI rn)]) (congrArg (fun z => Value.int z :: [.int (nI rn)]) (hsh)) ?_
    refine q_iaddN C dX3_standsAt_29  ?_
    refine q_aload_n C dX3_standsAt_30 rfl 1 rfl ?_
    refine q_get C (k := 19) (fi := 9) (.ref (σ.2.1 74)) (by omega) q_enMO rfl iX3_standsAt_X3 (by decide) (by decide +kernel) rfl rfl dX3_standsAt_31 ?_
    refine q_iload_n C dX3_standsAt_34 rfl 3 rfl ?_
    refine q_ialdN C (k := 74) (n := 12) ⟨by decide, by decide, by decide⟩ (by omega) (by decide) dX3_standsAt_35 ?_
    refine q_stk (st' := [.int (nI h), .int (nI (rn + sh))]) (congrArg (fun z => Value.int z :: [.int (nI (rn + sh))]) (hmh)) ?_
    refine q_icmp_gtN C 43 dX3_standsAt_36 (by decide) (by omega) (by omega) (fun c_36 => ?_) (fun c_36 => ?_)
    · skip
      refine q_iconst C (nI 0) dX3_standsAt_43 (by decide) ?_
      refine q_istore C [(6, .int (nI 0)), (5, .int (nI sw)), (0, .ref (σ.2.1 19)), (1, .int (nI t)), (2, .int (nI pa)), (3, .int (nI cn)), (4, .int (nI rn))] dX3_standsAt_44 (by decide) rfl ?_
      refine q_sub (lv' := [(6, .int (nI 0)), (0, .ref (σ.2.1 19)), (1, .int (nI t)), (2, .int (nI pa)), (3, .int (nI cn)), (4, .int (nI rn)), (5, .int (nI sw))]) [0, 2, 3, 4, 5, 6, 1] rfl ?_
      exact J_1 _ (by first | exact Or.inr ⟨rfl, fun q => Nat.not_lt.mpr q.2.1 c_36⟩ | exact Or.inr ⟨rfl, fun q => Nat.not_lt.mpr q.1 c_18⟩)
    · skip
      refine q_iconst C (nI 1) dX3_standsAt_39 (by decide) ?_
      refine q_goto C 44 dX3_standsAt_40 (by decide) ?_
      refine q_istore C [(6, .int (nI 1)), (5, .int (nI sw)), (0, .ref (σ.2.1 19)), (1, .int (nI t)), (2, .int (nI pa)), (3, .int (nI cn)), (4, .int (nI rn))] dX3_standsAt_44 (by decide) rfl ?_
      refine q_sub (lv' := [(6, .int (nI 1)), (0, .ref (σ.2.1 19)), (1, .int (nI t)), (2, .int (nI pa)), (3, .int (nI cn)), (4, .int (nI rn)), (5, .int (nI sw))]) [0, 2, 3, 4, 5, 6, 1] rfl ?_
      exact J_1 _ (Or.inl ⟨rfl, c_18, c_36⟩)
abbrev rX3_standsIn : Room := { frames := 3, cells := 0, slots := 0, locals := 62 }
set_option maxHeartbeats 4000000 in
set_option maxRecDepth 100000 in
/-- standsIn -/
theorem kX3_standsIn (l : Launch) (σ : q_E) (V : q_V) (G : q_G) {t pa w h sw sh : Nat} (ht : t < 8) (hs : q_sok V t sw sh) (hp : pa < 12) (hm : q_mok V pa w h) : q_Mi l yX3_standsIn wsX3_standsIn rX3_standsIn σ [.ref (σ.2.1 19), .int (nI t), .int (nI pa)] V G (fun r V' G' => nI (q_mplaces V t pa w h sw sh) = r ∧ V = V' ∧ G = G') 0 0 := by
  refine q_Mi_of (cc := cX3_standsIn) (maxL := 5) (lv := [(0, .ref (σ.2.1 19)), (1, .int (nI t)), (2, .int (nI pa))]) (by decide +kernel) rfl (Nat.le_of_ble_eq_true rfl) rfl ?_
  intro p e s m args below meth c Q C hR
  refine q_iconst C (nI 0) dX3_standsIn_0 (by decide) ?_
  refine q_istore_n C [(3, .int (nI 0)), (0, .ref (σ.2.1 19)), (1, .int (nI t)), (2, .int (nI pa))] dX3_standsIn_1 rfl (by decide) rfl ?_
  refine q_iconst C (nI 0) dX3_standsIn_2 (by decide) ?_
  refine q_istore C [(4, .int (nI 0)), (3, .int (nI 0)), (0, .ref (σ.2.1 19)), (1, .int (nI t)), (2, .int (nI pa))] dX3_standsIn_3 (by decide) rfl ?_
  have L_1 : ∀ (nL_1 : Nat) (j n : Nat) (hj : j ≤ 48) (hn : n = q_ct (fun k => q_mstands V t pa w h sw sh (k % 8) (k / 8)) j), 48 - j < nL_1 → q_W σ p l e rX3_standsIn s m args below meth c Q 5 0 0 V G [(3, .int (nI n)), (4, .int (nI j)), (0, .ref (σ.2.1 19)), (1, .int (nI t)), (2, .int (nI pa))] 5 [] := by
    intro nL_1
    induction nL_1 with
    | zero => intro j n hj hn h; exact absurd h (Nat.not_lt_zero _)
    | succ nL_1 ihL_1 =>
      intro j n hj hn hmL_1
      refine q_iload C dX3_standsIn_5 1 rfl ?_
      refine q_bipush C (nI 48) dX3_standsIn_7 (by decide) ?_
      refine q_icmp_geN C 45 dX3_standsIn_9 (by decide) (by omega) (by omega) (fun c_9 => ?_) (fun c_9 => ?_)
      · skip
        refine q_iload_n C dX3_standsIn_45 rfl 0 rfl ?_
        refine hR _ _ _ _ _ _ _ ?_ rfl (Nat.le_of_ble_eq_true rfl) (Nat.le_of_ble_eq_true rfl) dX3_standsIn_46
        obtain rfl : j = 48 := by omega
        exact ⟨by rw [hn]; rfl, rfl, rfl⟩
      · skip
        refine q_iload_n C dX3_standsIn_12 rfl 0 rfl ?_
        refine q_aload_n C dX3_standsIn_13 rfl 2 rfl ?_
        refine q_iload_n C dX3_standsIn_14 rfl 3 rfl ?_
        refine q_iload_n C dX3_standsIn_15 rfl 4 rfl ?_
        refine q_iload C dX3_standsIn_16 1 rfl ?_
        refine q_bipush C (nI 8) dX3_standsIn_18 (by decide) ?_
        refine q_iremN C dX3_standsIn_20 (by omega) (by omega) (by omega) ?_
        refine q_iload C dX3_standsIn_21 1 rfl ?_
        refine q_bipush C (nI 8) dX3_standsIn_23 (by decide) ?_
        refine q_idivN C dX3_standsIn_25 (by omega) (by omega) (by omega) ?_
        refine q_callVi C (As := [.int (nI t), .int (nI pa), .int (nI (j % 8)), .int (nI (j / 8))]) (rest := [.int (nI n)]) (k := 19) (by omega) q_enMO rfl rfl (kX3_standsAt l σ V G ht hs hp hm (cn := j % 8) (rn := j / 8) (by omega) (by omega)) 4 gX3_standsIn_X3_standsAt rfl rfl rfl (by decide +kernel) ⟨Nat.le_of_ble_eq_true rfl, Nat.le_of_ble_eq_true rfl⟩ dX3_standsIn_26 rfl (Nat.le_of_ble_eq_true rfl) ⟨Nat.le_of_ble_eq_true rfl, Nat.le_of_ble_eq_true rfl⟩ (fun r_26 V_2 G_3 hq_26 => ?_)
        obtain ⟨hs_26, rfl, rfl⟩ := hq_26
        refine q_if_eq C 36 dX3_standsIn_29 (by decide) (fun c_29 => ?_) (fun c_29 => ?_)
        · skip
          have b_26 := (q_is_eq hs_26).mp c_29
          refine q_iconst C (nI 0) dX3_standsIn_36 (by decide) ?_
          refine q_iaddN C dX3_standsIn_37  ?_
          refine q_istore_n C [(3, .int (nI (n + 0))), (4, .int (nI j)), (0, .ref (σ.2.1 19)), (1, .int (nI t)), (2, .int (nI pa))] dX3_standsIn_38 rfl (by decide) rfl ?_
          refine q_iincN C [(4, .int (nI (j + 1))), (3, .int (nI (n + 0))), (0, .ref (σ.2.1 19)), (1, .int (nI t)), (2, .int (nI pa))] dX3_standsIn_39 1 rfl (by decide) rfl ?_
          refine q_goto C 5 dX3_standsIn_42 (by decide) ?_
          refine q_sub (lv' := [(3, .int (nI (n + 0))), (4, .int (nI (j + 1))), (0, .ref (σ.2.1 19)), (1, .int (nI t)), (2, .int (nI pa))]) [1, 0, 2, 3, 4] rfl ?_
          exact ihL_1 (j + 1) _ (by omega) (by first | exact hn.trans (q_ct_n (p := fun k => q_mstands V t pa w h sw sh (k % 8) (k / 8)) b_26).symm | (rw [hn]; exact (q_ct_y (p := fun k => q_mstands V t pa w h sw sh (k % 8) (k / 8)) b_26).symm)) (by omega)
        · skip
          have b_26 := (q_is_ne hs_26).mp c_29
          refine q_iconst C (nI 1) dX3_standsIn_32 (by decide) ?_
          refine q_goto C 37 dX3_standsIn_33 (by decide) ?_
          refine q_iaddN C dX3_standsIn_37  ?_
          refine q_istore_n C [(3, .int (nI (n + 1))), (4, .int (nI j)), (0, .ref (σ.2.1 19)), (1, .int (nI t)), (2, .int (nI pa))] dX3_standsIn_38 rfl (by decide) rfl ?_
          refine q_iincN C [(4, .int (nI (j + 1))), (3, .int (nI (n + 1))), (0, .ref (σ.2.1 19)), (1, .int (nI t)), (2, .int (nI pa))] dX3_standsIn_39 1 rfl (by decide) rfl ?_
          refine q_goto C 5 dX3_standsIn_42 (by decide) ?_
          refine q_sub (lv' := [(3, .int (nI (n + 1))), (4, .int (nI (j + 1))), (0, .ref (σ.2.1 19)), (1, .int (nI t)), (2, .int (nI pa))]) [1, 0, 2, 3, 4] rfl ?_
          exact ihL_1 (j + 1) _ (by omega) (by first | exact hn.trans (q_ct_n (p := fun k => q_mstands V t pa w h sw sh (k % 8) (k / 8)) b_26).symm | (rw [hn]; exact (q_ct_y (p := fun k => q_mstands V t pa w h sw sh (k % 8) (k / 8)) b_26).symm)) (by omega)
  refine q_sub (lv' := [(3, .int (nI 0)), (4, .int (nI 0)), (0, .ref (σ.2.1 19)), (1, .int (nI t)), (2, .int (nI pa))]) [1, 0, 2, 3, 4] rfl ?_
  exact L_1 _ 0 0 (Nat.zero_le _) rfl (Nat.lt_succ_self _)
abbrev rX3_storyOf : Room := { frames := 4, cells := 0, slots := 0, locals := 86 }
theorem iX3_storyOf_X3 : ∀ w ∈ u_ws RX3 TX3 26, w ∈ wsX3_storyOf := by decide +kernel
set_option maxHeartbeats 4000000 in
set_option maxRecDepth 100000 in
/-- storyOf -/
theorem kX3_storyOf (l : Launch) (σ : q_E) (V : q_V) (G : q_G) {n pa : Nat} (hn : V 19 20 = nI n) (hn2 : n ≤ 8) (hp : pa < 12) (hm : q_mok V pa (q_n (V 73 pa)) (q_n (V 74 pa))) (hs : ∀ t, t < n → q_sok V t (q_n (V 85 t)) (q_n (V 86 t))) : q_Mi l yX3_storyOf wsX3_storyOf rX3_storyOf σ [.ref (σ.2.1 19), .int (nI pa)] V G (fun r V' G' => q_mstory V pa n = r ∧ V = V' ∧ G = G') 0 0 := by
  refine q_Mi_of (cc := cX3_storyOf) (maxL := 4) (lv := [(0, .ref (σ.2.1 19)), (1, .int (nI pa))]) (by decide +kernel) rfl (Nat.le_of_ble_eq_true rfl) rfl ?_
  intro p e s m args below meth c Q C hR
  refine q_iconst C (nI 0) dX3_storyOf_0 (by decide) ?_
  refine q_istore_n C [(2, .int (nI 0)), (0, .ref (σ.2.1 19)), (1, .int (nI pa))] dX3_storyOf_1 rfl (by decide) rfl ?_
  refine q_iconst C (nI 0) dX3_storyOf_2 (by decide) ?_
  refine q_istore_n C [(3, .int (nI 0)), (2, .int (nI 0)), (0, .ref (σ.2.1 19)), (1, .int (nI pa))] dX3_storyOf_3 rfl (by decide) rfl ?_
  have L_1 : ∀ (nL_1 : Nat) (j : Nat) (hj : j ≤ n), n - j < nL_1 → q_W σ p l e rX3_storyOf s m args below meth c Q 4 0 0 V G [(2, .int (q_mstory V pa j)), (3, .int (nI j)), (0, .ref (σ.2.1 19)), (1, .int (nI pa))] 4 [] := by
    intro nL_1
    induction nL_1 with
    | zero => intro j hj h; exact absurd h (Nat.not_lt_zero _)
    | succ nL_1 ihL_1 =>
      intro j hj hmL_1
      refine q_iload_n C dX3_storyOf_4 rfl 1 rfl ?_
      refine q_aload_n C dX3_storyOf_5 rfl 2 rfl ?_
      refine q_get C (k := 19) (fi := 20) (.int (nI n)) (by omega) q_enMO rfl iX3_storyOf_X3 (by decide) (by decide +kernel) rfl (congrArg (fun z => some (Value.int z)) (hn)) dX3_storyOf_6 ?_
      refine q_icmp_geN C 34 dX3_storyOf_9 (by decide) (by omega) (by omega) (fun c_9 => ?_) (fun c_9 => ?_)
      · skip
        refine q_iload_n C dX3_storyOf_34 rfl 0 rfl ?_
        refine hR _ _ _ _ _ _ _ ?_ rfl (Nat.le_of_ble_eq_true rfl) (Nat.le_of_ble_eq_true rfl) dX3_storyOf_35
        obtain rfl : j = n := by omega
        exact ⟨rfl, rfl, rfl⟩
      · skip
        refine q_iload_n C dX3_storyOf_12 rfl 0 rfl ?_
        refine q_aload_n C dX3_storyOf_13 rfl 2 rfl ?_
        refine q_get C (k := 19) (fi := 24) (.ref (σ.2.1 88)) (by omega) q_enMO rfl iX3_storyOf_X3 (by decide) (by decide +kernel) rfl rfl dX3_storyOf_14 ?_
        refine q_iload_n C dX3_storyOf_17 rfl 1 rfl ?_
        refine q_ialdN C (k := 88) (n := 8) ⟨by decide, by decide, by decide⟩ (by omega) (by decide) dX3_storyOf_18 ?_
        refine q_aload_n C dX3_storyOf_19 rfl 2 rfl ?_
        refine q_iload_n C dX3_storyOf_20 rfl 1 rfl ?_
        refine q_iload_n C dX3_storyOf_21 rfl 3 rfl ?_
        refine q_callVi C (As := [.int (nI j), .int (nI pa)]) (rest := [.int (V 88 j), .int (q_mstory V pa j)]) (k := 19) (by omega) q_enMO rfl rfl (kX3_standsIn l σ V G (t := j) (by omega) (hs j (by omega)) hp hm) 2 gX3_storyOf_X3_standsIn rfl rfl rfl (by decide +kernel) ⟨Nat.le_of_ble_eq_true rfl, Nat.le_of_ble_eq_true rfl⟩ dX3_storyOf_22 rfl (Nat.le_of_ble_eq_true rfl) ⟨Nat.le_of_ble_eq_true rfl, Nat.le_of_ble_eq_true rfl⟩ (fun r_22 V_2 G_3 hq_22 => ?_)
        obtain ⟨rfl, rfl, rfl⟩ := hq_22
        refine q_imul C dX3_storyOf_25 ?_
        refine q_iadd C dX3_storyOf_26 ?_
        refine q_istore_n C [(2, .int ((q_mstory V pa j) + ((V 88 j) * nI (q_mplaces V j pa (q_n (V 73 pa)) (q_n (V 74 pa)) (q_n (V 85 j)) (q_n (V 86 j)))))), (3, .int (nI j)), (0, .ref (σ.2.1 19)), (1, .int (nI pa))] dX3_storyOf_27 rfl (by decide) rfl ?_
        refine q_iincN C [(3, .int (nI (j + 1))), (2, .int ((q_mstory V pa j) + ((V 88 j) * nI (q_mplaces V j pa (q_n (V 73 pa)) (q_n (V 74 pa)) (q_n (V 85 j)) (q_n (V 86 j)))))), (0, .ref (σ.2.1 19)), (1, .int (nI pa))] dX3_storyOf_28 1 rfl (by decide) rfl ?_
        refine q_goto C 4 dX3_storyOf_31 (by decide) ?_
        refine q_sub (lv' := [(2, .int ((q_mstory V pa j) + ((V 88 j) * nI (q_mplaces V j pa (q_n (V 73 pa)) (q_n (V 74 pa)) (q_n (V 85 j)) (q_n (V 86 j)))))), (3, .int (nI (j + 1))), (0, .ref (σ.2.1 19)), (1, .int (nI pa))]) [1, 0, 2, 3] rfl ?_
        exact ihL_1 (j + 1) (by omega) (by omega)
  refine q_sub (lv' := [(2, .int (nI 0)), (3, .int (nI 0)), (0, .ref (σ.2.1 19)), (1, .int (nI pa))]) [1, 0, 2, 3] rfl ?_
  exact L_1 _ 0 (Nat.zero_le _) (Nat.lt_succ_self _)
abbrev rX3_asks : Room := { frames := 3, cells := 0, slots := 0, locals := 55 }
theorem iX3_asks_X3 : ∀ w ∈ u_ws RX3 TX3 26, w ∈ wsX3_asks := by decide +kernel
set_option maxHeartbeats 4000000 in
set_option maxRecDepth 100000 in
/-- asks -/
theorem kX3_asks (l : Launch) (σ : q_E) (V : q_V) (G : q_G) {n : Nat} (hn : V 19 7 = nI n) (hn2 : n ≤ 12) (x : Int32) : q_Mi l yX3_asks wsX3_asks rX3_asks σ [.ref (σ.2.1 19), .int x] V G (fun r V' G' => ((q_ok n x ∧ (1 : Int32) = r ∧ q_up V 19 0 (nI 0) = V') ∨ (¬ q_ok n x ∧ (0 : Int32) = r ∧ q_up V 19 0 (nI 1) = V')) ∧ G = G') 0 0 := by
  refine q_Mi_of (cc := cX3_asks) (maxL := 2) (lv := [(0, .ref (σ.2.1 19)), (1, .int x)]) (by decide +kernel) rfl (Nat.le_of_ble_eq_true rfl) rfl ?_
  intro p e s m args below meth c Q C hR
  refine q_aload_n C dX3_asks_0 rfl 0 rfl ?_
  refine q_aload_n C dX3_asks_1 rfl 0 rfl ?_
  refine q_iload_n C dX3_asks_2 rfl 1 rfl ?_
  refine q_callVi C (As := [.int x]) (rest := [.ref (σ.2.1 19)]) (k := 19) (by omega) q_enMO rfl rfl (kX3_isPattern l σ V G hn hn2 x) 1 gX3_asks_X3_isPattern rfl rfl rfl (by decide +kernel) ⟨Nat.le_of_ble_eq_true rfl, Nat.le_of_ble_eq_true rfl⟩ dX3_asks_3 rfl (Nat.le_of_ble_eq_true rfl) ⟨Nat.le_of_ble_eq_true rfl, Nat.le_of_ble_eq_true rfl⟩ (fun r_3 V_1 G_2 hq_3 => ?_)
  obtain ⟨hs_3, rfl, rfl⟩ := hq_3
  refine q_if_eq C 13 dX3_asks_6 (by decide) (fun c_6 => ?_) (fun c_6 => ?_)
  · skip
    have b_3 := (q_is_eq hs_3).mp c_6
    refine q_iconst C (nI 1) dX3_asks_13 (by decide) ?_
    refine q_put C (k := 19) (fi := 0) tyX3 tyX3_ok nmX3 (by omega) q_enMO rfl iX3_asks_X3 (by decide) (by decide +kernel) rfl rfl (by decide +kernel) (Nat.le_of_ble_eq_true rfl) (q_enMO |>.trans (by simp [q_up])) dX3_asks_14 ?_
    refine q_aload_n C dX3_asks_17 rfl 0 rfl ?_
    refine q_get C (k := 19) (fi := 0) (.int (nI 1)) (by omega) q_enMO rfl iX3_asks_X3 (by decide) (by decide +kernel) rfl (congrArg (fun z => some (Value.int z)) (q_up_self _ _ _ _)) dX3_asks_18 ?_
    refine q_if_ne C 28 dX3_asks_21 (by decide) (fun _ => ?_) (fun c_21 => absurd c_21 (by decide))
    refine q_iconst C (nI 0) dX3_asks_28 (by decide) ?_
    refine hR _ _ _ _ _ _ _ ?_ (by first | rfl | decide) (Nat.le_of_ble_eq_true rfl) (Nat.le_of_ble_eq_true rfl) dX3_asks_29
    exact ⟨Or.inr ⟨b_3, rfl, rfl⟩, rfl⟩
  · skip
    have b_3 := (q_is_ne hs_3).mp c_6
    refine q_iconst C (nI 0) dX3_asks_9 (by decide) ?_
    refine q_goto C 14 dX3_asks_10 (by decide) ?_
    refine q_put C (k := 19) (fi := 0) tyX3 tyX3_ok nmX3 (by omega) q_enMO rfl iX3_asks_X3 (by decide) (by decide +kernel) rfl rfl (by decide +kernel) (Nat.le_of_ble_eq_true rfl) (q_enMO |>.trans (by simp [q_up])) dX3_asks_14 ?_
    refine q_aload_n C dX3_asks_17 rfl 0 rfl ?_
    refine q_get C (k := 19) (fi := 0) (.int (nI 0)) (by omega) q_enMO rfl iX3_asks_X3 (by decide) (by decide +kernel) rfl (congrArg (fun z => some (Value.int z)) (q_up_self _ _ _ _)) dX3_asks_18 ?_
    refine q_if_ne C 28 dX3_asks_21 (by decide) (fun c_21 => absurd c_21 (by decide)) (fun _ => ?_)
    refine q_iconst C (nI 1) dX3_asks_24 (by decide) ?_
    refine q_goto C 29 dX3_asks_25 (by decide) ?_
    refine hR _ _ _ _ _ _ _ ?_ (by first | rfl | decide) (Nat.le_of_ble_eq_true rfl) (Nat.le_of_ble_eq_true rfl) dX3_asks_29
    exact ⟨Or.inl ⟨b_3, rfl, rfl⟩, rfl⟩
abbrev rX3_freeBelt : Room := { frames := 1, cells := 0, slots := 0, locals := 12 }
theorem iX3_freeBelt_X3 : ∀ w ∈ u_ws RX3 TX3 26, w ∈ wsX3_freeBelt := by decide +kernel
set_option maxHeartbeats 4000000 in
set_option maxRecDepth 100000 in
/-- freeBelt -/
theorem kX3_freeBelt (l : Launch) (σ : q_E) (V : q_V) (G : q_G) : q_Mi l yX3_freeBelt wsX3_freeBelt rX3_freeBelt σ [.ref (σ.2.1 19)] V G (fun r V' G' => (∃ k, k ≤ 20 ∧ (∀ b, b < k → ¬ V 78 b = -1) ∧ (k < 20 → V 78 k = -1) ∧ nI k = r) ∧ V = V' ∧ G = G') 0 0 := by
  refine q_Mi_of (cc := cX3_freeBelt) (maxL := 2) (lv := [(0, .ref (σ.2.1 19))]) (by decide +kernel) rfl (Nat.le_of_ble_eq_true rfl) rfl ?_
  intro p e s m args below meth c Q C hR
  refine q_iconst C (nI 0) dX3_freeBelt_0 (by decide) ?_
  refine q_istore_n C [(1, .int (nI 0)), (0, .ref (σ.2.1 19))] dX3_freeBelt_1 rfl (by decide) rfl ?_
  have L_1 : ∀ (nL_1 : Nat) (j : Nat) (hj : j ≤ 20) (ha : ∀ b, b < j → ¬ V 78 b = -1), 20 - j < nL_1 → q_W σ p l e rX3_freeBelt s m args below meth c Q 2 0 0 V G [(1, .int (nI j)), (0, .ref (σ.2.1 19))] 2 [] := by
    intro nL_1
    induction nL_1 with
    | zero => intro j hj ha h; exact absurd h (Nat.not_lt_zero _)
    | succ nL_1 ihL_1 =>
      intro j hj ha hmL_1
      refine q_iload_n C dX3_freeBelt_2 rfl 0 rfl ?_
      refine q_bipush C (nI 20) dX3_freeBelt_3 (by decide) ?_
      refine q_icmp_geN C 24 dX3_freeBelt_5 (by decide) (by omega) (by omega) (fun c_5 => ?_) (fun c_5 => ?_)
      · skip
        refine q_iload_n C dX3_freeBelt_24 rfl 0 rfl ?_
        refine hR _ _ _ _ _ _ _ ?_ rfl (Nat.le_of_ble_eq_true rfl) (Nat.le_of_ble_eq_true rfl) dX3_freeBelt_25
        exact ⟨⟨j, hj, ha, fun q => by first | exact c_15 | exact absurd q (by omega), rfl⟩, rfl, rfl⟩
      · skip
        refine q_aload_n C dX3_freeBelt_8 rfl 1 rfl ?_
        refine q_get C (k := 19) (fi := 13) (.ref (σ.2.1 78)) (by omega) q_enMO rfl iX3_freeBelt_X3 (by decide) (by decide +kernel) rfl rfl dX3_freeBelt_9 ?_
        refine q_iload_n C dX3_freeBelt_12 rfl 0 rfl ?_
        refine q_ialdN C (k := 78) (n := 20) ⟨by decide, by decide, by decide⟩ (by omega) (by decide) dX3_freeBelt_13 ?_
        refine q_iconst C ((-1)) dX3_freeBelt_14 (by decide) ?_
        refine q_icmp_eq C 24 dX3_freeBelt_15 (by decide) (fun c_15 => ?_) (fun c_15 => ?_)
        · skip
          refine q_iload_n C dX3_freeBelt_24 rfl 0 rfl ?_
          refine hR _ _ _ _ _ _ _ ?_ rfl (Nat.le_of_ble_eq_true rfl) (Nat.le_of_ble_eq_true rfl) dX3_freeBelt_25
          exact ⟨⟨j, hj, ha, fun q => by first | exact c_15 | exact absurd q (by omega), rfl⟩, rfl, rfl⟩
        · skip
          refine q_iincN C [(1, .int (nI (j + 1))), (0, .ref (σ.2.1 19))] dX3_freeBelt_18 0 rfl (by decide) rfl ?_
          refine q_goto C 2 dX3_freeBelt_21 (by decide) ?_
          refine q_sub (lv' := [(1, .int (nI (j + 1))), (0, .ref (σ.2.1 19))]) [0, 1] rfl ?_
          exact ihL_1 (j + 1) (by omega) (lt_s ha c_15) (by omega)
  refine q_sub (lv' := [(1, .int (nI 0)), (0, .ref (σ.2.1 19))]) [0, 1] rfl ?_
  exact L_1 _ 0 (Nat.zero_le _) lt_0 (Nat.lt_succ_self _)
end
