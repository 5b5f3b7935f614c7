section
-- ===== PART A: goes FIRST, ahead of the names: the tables' words, and 'selects' of the private methods out of them =====
/-- a private method of a class that the tables say can be made, by its rows of tables_1 -/
def lw_okq (q : MethodName × Nat) : Prop := (q.1.cls ≠ "java/lang/invoke/MethodHandle" ∧ q.1.cls ≠ "java/lang/invoke/VarHandle") ∧ Cond.instantiable q.1.cls q.2 ∈ tables_1 ∧ Cond.privateMethod q.1 ∈ tables_1 ∧ Cond.instanceMethod q.1 ∈ tables_1
theorem lw_p0 : lw_okq (⟨"PileCaps$Ground", "add", "(III)I"⟩, 5) := ⟨⟨by decide +kernel, by decide +kernel⟩, List.mem_of_getElem? (i := 22) (by decide +kernel), List.mem_of_getElem? (i := 253) (by decide +kernel), List.mem_of_getElem? (i := 254) (by decide +kernel)⟩
theorem lw_p1 : lw_okq (⟨"PileCaps$Ground", "has", "(I)Z"⟩, 5) := ⟨⟨by decide +kernel, by decide +kernel⟩, List.mem_of_getElem? (i := 22) (by decide +kernel), List.mem_of_getElem? (i := 261) (by decide +kernel), List.mem_of_getElem? (i := 262) (by decide +kernel)⟩
theorem lw_p2 : lw_okq (⟨"PileCaps$Ground", "setSide", "(II)I"⟩, 5) := ⟨⟨by decide +kernel, by decide +kernel⟩, List.mem_of_getElem? (i := 22) (by decide +kernel), List.mem_of_getElem? (i := 265) (by decide +kernel), List.mem_of_getElem? (i := 266) (by decide +kernel)⟩
theorem lw_p3 : lw_okq (⟨"PileCaps$Ground", "setTip", "(II)I"⟩, 5) := ⟨⟨by decide +kernel, by decide +kernel⟩, List.mem_of_getElem? (i := 22) (by decide +kernel), List.mem_of_getElem? (i := 269) (by decide +kernel), List.mem_of_getElem? (i := 270) (by decide +kernel)⟩
theorem lw_p4 : lw_okq (⟨"PileCaps$Ground", "setScour", "(I)I"⟩, 5) := ⟨⟨by decide +kernel, by decide +kernel⟩, List.mem_of_getElem? (i := 22) (by decide +kernel), List.mem_of_getElem? (i := 277) (by decide +kernel), List.mem_of_getElem? (i := 278) (by decide +kernel)⟩
theorem lw_p5 : lw_okq (⟨"PileCaps$Piles", "add", "(IIII)I"⟩, 6) := ⟨⟨by decide +kernel, by decide +kernel⟩, List.mem_of_getElem? (i := 46) (by decide +kernel), List.mem_of_getElem? (i := 288) (by decide +kernel), List.mem_of_getElem? (i := 289) (by decide +kernel)⟩
theorem lw_p6 : lw_okq (⟨"PileCaps$Piles", "place", "(III)V"⟩, 6) := ⟨⟨by decide +kernel, by decide +kernel⟩, List.mem_of_getElem? (i := 46) (by decide +kernel), List.mem_of_getElem? (i := 292) (by decide +kernel), List.mem_of_getElem? (i := 293) (by decide +kernel)⟩
theorem lw_p7 : lw_okq (⟨"PileCaps$Piles", "setWhole", "(IZ)V"⟩, 6) := ⟨⟨by decide +kernel, by decide +kernel⟩, List.mem_of_getElem? (i := 46) (by decide +kernel), List.mem_of_getElem? (i := 296) (by decide +kernel), List.mem_of_getElem? (i := 297) (by decide +kernel)⟩
theorem lw_p8 : lw_okq (⟨"PileCaps$Piles", "has", "(I)Z"⟩, 6) := ⟨⟨by decide +kernel, by decide +kernel⟩, List.mem_of_getElem? (i := 46) (by decide +kernel), List.mem_of_getElem? (i := 304) (by decide +kernel), List.mem_of_getElem? (i := 305) (by decide +kernel)⟩
theorem lw_p9 : lw_okq (⟨"PileCaps$Piles", "isWhole", "(I)Z"⟩, 6) := ⟨⟨by decide +kernel, by decide +kernel⟩, List.mem_of_getElem? (i := 46) (by decide +kernel), List.mem_of_getElem? (i := 313) (by decide +kernel), List.mem_of_getElem? (i := 314) (by decide +kernel)⟩
theorem lw_p10 : lw_okq (⟨"PileCaps$Ground", "pullOf", "(I)I"⟩, 5) := ⟨⟨by decide +kernel, by decide +kernel⟩, List.mem_of_getElem? (i := 22) (by decide +kernel), List.mem_of_getElem? (i := 322) (by decide +kernel), List.mem_of_getElem? (i := 323) (by decide +kernel)⟩
theorem lw_p11 : lw_okq (⟨"PileCaps$Ground", "bearingOf", "(I)I"⟩, 5) := ⟨⟨by decide +kernel, by decide +kernel⟩, List.mem_of_getElem? (i := 22) (by decide +kernel), List.mem_of_getElem? (i := 332) (by decide +kernel), List.mem_of_getElem? (i := 333) (by decide +kernel)⟩
theorem lw_p12 : lw_okq (⟨"PileCaps$Ground", "tipBelow", "(I)I"⟩, 5) := ⟨⟨by decide +kernel, by decide +kernel⟩, List.mem_of_getElem? (i := 22) (by decide +kernel), List.mem_of_getElem? (i := 337) (by decide +kernel), List.mem_of_getElem? (i := 338) (by decide +kernel)⟩
theorem lw_p13 : lw_okq (⟨"PileCaps$Ground", "layerAt", "(I)I"⟩, 5) := ⟨⟨by decide +kernel, by decide +kernel⟩, List.mem_of_getElem? (i := 22) (by decide +kernel), List.mem_of_getElem? (i := 341) (by decide +kernel), List.mem_of_getElem? (i := 342) (by decide +kernel)⟩
theorem lw_p14 : lw_okq (⟨"PileCaps$Loads", "add", "(IIII)I"⟩, 4) := ⟨⟨by decide +kernel, by decide +kernel⟩, List.mem_of_getElem? (i := 85) (by decide +kernel), List.mem_of_getElem? (i := 352) (by decide +kernel), List.mem_of_getElem? (i := 353) (by decide +kernel)⟩
theorem lw_p15 : lw_okq (⟨"PileCaps$Loads", "clear", "(I)I"⟩, 4) := ⟨⟨by decide +kernel, by decide +kernel⟩, List.mem_of_getElem? (i := 85) (by decide +kernel), List.mem_of_getElem? (i := 360) (by decide +kernel), List.mem_of_getElem? (i := 361) (by decide +kernel)⟩
def lw_privs_1 : List (MethodName × Nat) := [(⟨"PileCaps$Ground", "add", "(III)I"⟩, 5), (⟨"PileCaps$Ground", "has", "(I)Z"⟩, 5), (⟨"PileCaps$Ground", "setSide", "(II)I"⟩, 5), (⟨"PileCaps$Ground", "setTip", "(II)I"⟩, 5), (⟨"PileCaps$Ground", "setScour", "(I)I"⟩, 5), (⟨"PileCaps$Piles", "add", "(IIII)I"⟩, 6), (⟨"PileCaps$Piles", "place", "(III)V"⟩, 6), (⟨"PileCaps$Piles", "setWhole", "(IZ)V"⟩, 6), (⟨"PileCaps$Piles", "has", "(I)Z"⟩, 6), (⟨"PileCaps$Piles", "isWhole", "(I)Z"⟩, 6), (⟨"PileCaps$Ground", "pullOf", "(I)I"⟩, 5), (⟨"PileCaps$Ground", "bearingOf", "(I)I"⟩, 5), (⟨"PileCaps$Ground", "tipBelow", "(I)I"⟩, 5), (⟨"PileCaps$Ground", "layerAt", "(I)I"⟩, 5), (⟨"PileCaps$Loads", "add", "(IIII)I"⟩, 4), (⟨"PileCaps$Loads", "clear", "(I)I"⟩, 4)]
theorem lw_r1 : ∀ q ∈ lw_privs_1, lw_okq q := List.forall_mem_cons.mpr ⟨lw_p0, List.forall_mem_cons.mpr ⟨lw_p1, List.forall_mem_cons.mpr ⟨lw_p2, List.forall_mem_cons.mpr ⟨lw_p3, List.forall_mem_cons.mpr ⟨lw_p4, List.forall_mem_cons.mpr ⟨lw_p5, List.forall_mem_cons.mpr ⟨lw_p6, List.forall_mem_cons.mpr ⟨lw_p7, List.forall_mem_cons.mpr ⟨lw_p8, List.forall_mem_cons.mpr ⟨lw_p9, List.forall_mem_cons.mpr ⟨lw_p10, List.forall_mem_cons.mpr ⟨lw_p11, List.forall_mem_cons.mpr ⟨lw_p12, List.forall_mem_cons.mpr ⟨lw_p13, List.forall_mem_cons.mpr ⟨lw_p14, List.forall_mem_cons.mpr ⟨lw_p15, fun _ h => absurd h List.not_mem_nil⟩⟩⟩⟩⟩⟩⟩⟩⟩⟩⟩⟩⟩⟩⟩⟩
theorem lw_p16 : lw_okq (⟨"PileCaps", "settle", "(I)I"⟩, 8) := ⟨⟨by decide +kernel, by decide +kernel⟩, List.mem_of_getElem? (i := 14) (by decide +kernel), List.mem_of_getElem? (i := 368) (by decide +kernel), List.mem_of_getElem? (i := 369) (by decide +kernel)⟩
theorem lw_p17 : lw_okq (⟨"PileCaps$Cap", "standOn", "(I)Z"⟩, 11) := ⟨⟨by decide +kernel, by decide +kernel⟩, List.mem_of_getElem? (i := 109) (by decide +kernel), List.mem_of_getElem? (i := 372) (by decide +kernel), List.mem_of_getElem? (i := 373) (by decide +kernel)⟩
theorem lw_p18 : lw_okq (⟨"PileCaps$Cap", "take", "(LPileCaps$Loads;I)V"⟩, 11) := ⟨⟨by decide +kernel, by decide +kernel⟩, List.mem_of_getElem? (i := 109) (by decide +kernel), List.mem_of_getElem? (i := 376) (by decide +kernel), List.mem_of_getElem? (i := 377) (by decide +kernel)⟩
theorem lw_p19 : lw_okq (⟨"PileCaps$Told", "clear", "()V"⟩, 3) := ⟨⟨by decide +kernel, by decide +kernel⟩, List.mem_of_getElem? (i := 196) (by decide +kernel), List.mem_of_getElem? (i := 380) (by decide +kernel), List.mem_of_getElem? (i := 381) (by decide +kernel)⟩
theorem lw_p20 : lw_okq (⟨"PileCaps$Told", "add", "(JJ)V"⟩, 3) := ⟨⟨by decide +kernel, by decide +kernel⟩, List.mem_of_getElem? (i := 196) (by decide +kernel), List.mem_of_getElem? (i := 384) (by decide +kernel), List.mem_of_getElem? (i := 385) (by decide +kernel)⟩
theorem lw_p21 : lw_okq (⟨"PileCaps$Cap", "share", "(I)J"⟩, 11) := ⟨⟨by decide +kernel, by decide +kernel⟩, List.mem_of_getElem? (i := 109) (by decide +kernel), List.mem_of_getElem? (i := 394) (by decide +kernel), List.mem_of_getElem? (i := 395) (by decide +kernel)⟩
theorem lw_p22 : lw_okq (⟨"PileCaps$Limits", "measure", "(LPileCaps$Ground;LPileCaps$Piles;)V"⟩, 3) := ⟨⟨by decide +kernel, by decide +kernel⟩, List.mem_of_getElem? (i := 153) (by decide +kernel), List.mem_of_getElem? (i := 402) (by decide +kernel), List.mem_of_getElem? (i := 403) (by decide +kernel)⟩
theorem lw_p23 : lw_okq (⟨"PileCaps", "overloaded", "(I)I"⟩, 8) := ⟨⟨by decide +kernel, by decide +kernel⟩, List.mem_of_getElem? (i := 14) (by decide +kernel), List.mem_of_getElem? (i := 408) (by decide +kernel), List.mem_of_getElem? (i := 409) (by decide +kernel)⟩
theorem lw_p24 : lw_okq (⟨"PileCaps$Limits", "against", "(IJ)J"⟩, 3) := ⟨⟨by decide +kernel, by decide +kernel⟩, List.mem_of_getElem? (i := 153) (by decide +kernel), List.mem_of_getElem? (i := 413) (by decide +kernel), List.mem_of_getElem? (i := 414) (by decide +kernel)⟩
theorem lw_p25 : lw_okq (⟨"PileCaps", "endsBefore", "(II)Z"⟩, 8) := ⟨⟨by decide +kernel, by decide +kernel⟩, List.mem_of_getElem? (i := 14) (by decide +kernel), List.mem_of_getElem? (i := 421) (by decide +kernel), List.mem_of_getElem? (i := 422) (by decide +kernel)⟩
theorem lw_p26 : lw_okq (⟨"PileCaps$Limits", "measureSpacing", "(LPileCaps$Piles;I)V"⟩, 3) := ⟨⟨by decide +kernel, by decide +kernel⟩, List.mem_of_getElem? (i := 153) (by decide +kernel), List.mem_of_getElem? (i := 441) (by decide +kernel), List.mem_of_getElem? (i := 442) (by decide +kernel)⟩
theorem lw_p27 : lw_okq (⟨"PileCaps", "holds", "(I)Z"⟩, 8) := ⟨⟨by decide +kernel, by decide +kernel⟩, List.mem_of_getElem? (i := 14) (by decide +kernel), List.mem_of_getElem? (i := 445) (by decide +kernel), List.mem_of_getElem? (i := 446) (by decide +kernel)⟩
theorem lw_p28 : lw_okq (⟨"PileCaps$Limits", "spaced", "(I)Z"⟩, 3) := ⟨⟨by decide +kernel, by decide +kernel⟩, List.mem_of_getElem? (i := 153) (by decide +kernel), List.mem_of_getElem? (i := 449) (by decide +kernel), List.mem_of_getElem? (i := 450) (by decide +kernel)⟩
theorem lw_p29 : lw_okq (⟨"PileCaps$Driving", "run", "(LPileCaps$Ground;III)V"⟩, 5) := ⟨⟨by decide +kernel, by decide +kernel⟩, List.mem_of_getElem? (i := 169) (by decide +kernel), List.mem_of_getElem? (i := 457) (by decide +kernel), List.mem_of_getElem? (i := 458) (by decide +kernel)⟩
theorem lw_p30 : lw_okq (⟨"PileCaps$Driving", "goThrough", "(III)Z"⟩, 5) := ⟨⟨by decide +kernel, by decide +kernel⟩, List.mem_of_getElem? (i := 169) (by decide +kernel), List.mem_of_getElem? (i := 462) (by decide +kernel), List.mem_of_getElem? (i := 463) (by decide +kernel)⟩
theorem lw_p31 : lw_okq (⟨"PileCaps", "tellDepth", "(II)V"⟩, 8) := ⟨⟨by decide +kernel, by decide +kernel⟩, List.mem_of_getElem? (i := 14) (by decide +kernel), List.mem_of_getElem? (i := 473) (by decide +kernel), List.mem_of_getElem? (i := 474) (by decide +kernel)⟩
def lw_privs_2 : List (MethodName × Nat) := [(⟨"PileCaps", "settle", "(I)I"⟩, 8), (⟨"PileCaps$Cap", "standOn", "(I)Z"⟩, 11), (⟨"PileCaps$Cap", "take", "(LPileCaps$Loads;I)V"⟩, 11), (⟨"PileCaps$Told", "clear", "()V"⟩, 3), (⟨"PileCaps$Told", "add", "(JJ)V"⟩, 3), (⟨"PileCaps$Cap", "share", "(I)J"⟩, 11), (⟨"PileCaps$Limits", "measure", "(LPileCaps$Ground;LPileCaps$Piles;)V"⟩, 3), (⟨"PileCaps", "overloaded", "(I)I"⟩, 8), (⟨"PileCaps$Limits", "against", "(IJ)J"⟩, 3), (⟨"PileCaps", "endsBefore", "(II)Z"⟩, 8), (⟨"PileCaps$Limits", "measureSpacing", "(LPileCaps$Piles;I)V"⟩, 3), (⟨"PileCaps", "holds", "(I)Z"⟩, 8), (⟨"PileCaps$Limits", "spaced", "(I)Z"⟩, 3), (⟨"PileCaps$Driving", "run", "(LPileCaps$Ground;III)V"⟩, 5), (⟨"PileCaps$Driving", "goThrough", "(III)Z"⟩, 5), (⟨"PileCaps", "tellDepth", "(II)V"⟩, 8)]
theorem lw_r2 : ∀ q ∈ lw_privs_2, lw_okq q := List.forall_mem_cons.mpr ⟨lw_p16, List.forall_mem_cons.mpr ⟨lw_p17, List.forall_mem_cons.mpr ⟨lw_p18, List.forall_mem_cons.mpr ⟨lw_p19, List.forall_mem_cons.mpr ⟨lw_p20, List.forall_mem_cons.mpr ⟨lw_p21, List.forall_mem_cons.mpr ⟨lw_p22, List.forall_mem_cons.mpr ⟨lw_p23, List.forall_mem_cons.mpr ⟨lw_p24, List.forall_mem_cons.mpr ⟨lw_p25, List.forall_mem_cons.mpr ⟨lw_p26, List.forall_mem_cons.mpr ⟨lw_p27, List.forall_mem_cons.mpr ⟨lw_p28, List.forall_mem_cons.mpr ⟨lw_p29, List.forall_mem_cons.mpr ⟨lw_p30, List.forall_mem_cons.mpr ⟨lw_p31, fun _ h => absurd h List.not_mem_nil⟩⟩⟩⟩⟩⟩⟩⟩⟩⟩⟩⟩⟩⟩⟩⟩
theorem lw_p32 : lw_okq (⟨"PileCaps$Ground", "sideAt", "(I)I"⟩, 5) := ⟨⟨by decide +kernel, by decide +kernel⟩, List.mem_of_getElem? (i := 22) (by decide +kernel), List.mem_of_getElem? (i := 477) (by decide +kernel), List.mem_of_getElem? (i := 478) (by decide +kernel)⟩
theorem lw_p33 : lw_okq (⟨"PileCaps$Loads", "all", "()I"⟩, 4) := ⟨⟨by decide +kernel, by decide +kernel⟩, List.mem_of_getElem? (i := 85) (by decide +kernel), List.mem_of_getElem? (i := 492) (by decide +kernel), List.mem_of_getElem? (i := 493) (by decide +kernel)⟩
theorem lw_p34 : lw_okq (⟨"PileCapsModel", "isPile", "(I)Z"⟩, 23) := ⟨⟨by decide +kernel, by decide +kernel⟩, List.mem_of_getElem? (i := 496) (by decide +kernel), List.mem_of_getElem? (i := 599) (by decide +kernel), List.mem_of_getElem? (i := 600) (by decide +kernel)⟩
theorem lw_p35 : lw_okq (⟨"PileCapsModel", "pullOf", "(I)I"⟩, 23) := ⟨⟨by decide +kernel, by decide +kernel⟩, List.mem_of_getElem? (i := 496) (by decide +kernel), List.mem_of_getElem? (i := 611) (by decide +kernel), List.mem_of_getElem? (i := 612) (by decide +kernel)⟩
theorem lw_p36 : lw_okq (⟨"PileCapsModel", "sideOf", "(I)I"⟩, 23) := ⟨⟨by decide +kernel, by decide +kernel⟩, List.mem_of_getElem? (i := 496) (by decide +kernel), List.mem_of_getElem? (i := 615) (by decide +kernel), List.mem_of_getElem? (i := 616) (by decide +kernel)⟩
theorem lw_p37 : lw_okq (⟨"PileCapsModel", "layerOf", "(I)I"⟩, 23) := ⟨⟨by decide +kernel, by decide +kernel⟩, List.mem_of_getElem? (i := 496) (by decide +kernel), List.mem_of_getElem? (i := 619) (by decide +kernel), List.mem_of_getElem? (i := 620) (by decide +kernel)⟩
theorem lw_p38 : lw_okq (⟨"PileCapsModel", "bearingOf", "(I)I"⟩, 23) := ⟨⟨by decide +kernel, by decide +kernel⟩, List.mem_of_getElem? (i := 496) (by decide +kernel), List.mem_of_getElem? (i := 623) (by decide +kernel), List.mem_of_getElem? (i := 624) (by decide +kernel)⟩
theorem lw_p39 : lw_okq (⟨"PileCapsModel", "tipOf", "(I)I"⟩, 23) := ⟨⟨by decide +kernel, by decide +kernel⟩, List.mem_of_getElem? (i := 496) (by decide +kernel), List.mem_of_getElem? (i := 627) (by decide +kernel), List.mem_of_getElem? (i := 628) (by decide +kernel)⟩
theorem lw_p40 : lw_okq (⟨"PileCapsModel", "wholeSet", "()I"⟩, 23) := ⟨⟨by decide +kernel, by decide +kernel⟩, List.mem_of_getElem? (i := 496) (by decide +kernel), List.mem_of_getElem? (i := 646) (by decide +kernel), List.mem_of_getElem? (i := 647) (by decide +kernel)⟩
theorem lw_p41 : lw_okq (⟨"PileCapsModel", "solves", "(II)Z"⟩, 23) := ⟨⟨by decide +kernel, by decide +kernel⟩, List.mem_of_getElem? (i := 496) (by decide +kernel), List.mem_of_getElem? (i := 650) (by decide +kernel), List.mem_of_getElem? (i := 651) (by decide +kernel)⟩
theorem lw_p42 : lw_okq (⟨"PileCapsModel", "tell", "(IJJ)V"⟩, 23) := ⟨⟨by decide +kernel, by decide +kernel⟩, List.mem_of_getElem? (i := 496) (by decide +kernel), List.mem_of_getElem? (i := 654) (by decide +kernel), List.mem_of_getElem? (i := 655) (by decide +kernel)⟩
theorem lw_p43 : lw_okq (⟨"PileCapsModel", "shareOf", "(I)J"⟩, 23) := ⟨⟨by decide +kernel, by decide +kernel⟩, List.mem_of_getElem? (i := 496) (by decide +kernel), List.mem_of_getElem? (i := 661) (by decide +kernel), List.mem_of_getElem? (i := 662) (by decide +kernel)⟩
theorem lw_p44 : lw_okq (⟨"PileCapsModel", "isOver", "(I)Z"⟩, 23) := ⟨⟨by decide +kernel, by decide +kernel⟩, List.mem_of_getElem? (i := 496) (by decide +kernel), List.mem_of_getElem? (i := 669) (by decide +kernel), List.mem_of_getElem? (i := 670) (by decide +kernel)⟩
theorem lw_p45 : lw_okq (⟨"PileCapsModel", "holds", "(I)Z"⟩, 23) := ⟨⟨by decide +kernel, by decide +kernel⟩, List.mem_of_getElem? (i := 496) (by decide +kernel), List.mem_of_getElem? (i := 687) (by decide +kernel), List.mem_of_getElem? (i := 688) (by decide +kernel)⟩
theorem lw_p46 : lw_okq (⟨"PileCapsModel", "areApart", "(I)Z"⟩, 23) := ⟨⟨by decide +kernel, by decide +kernel⟩, List.mem_of_getElem? (i := 496) (by decide +kernel), List.mem_of_getElem? (i := 691) (by decide +kernel), List.mem_of_getElem? (i := 692) (by decide +kernel)⟩
def lw_privs_3 : List (MethodName × Nat) := [(⟨"PileCaps$Ground", "sideAt", "(I)I"⟩, 5), (⟨"PileCaps$Loads", "all", "()I"⟩, 4), (⟨"PileCapsModel", "isPile", "(I)Z"⟩, 23), (⟨"PileCapsModel", "pullOf", "(I)I"⟩, 23), (⟨"PileCapsModel", "sideOf", "(I)I"⟩, 23), (⟨"PileCapsModel", "layerOf", "(I)I"⟩, 23), (⟨"PileCapsModel", "bearingOf", "(I)I"⟩, 23), (⟨"PileCapsModel", "tipOf", "(I)I"⟩, 23), (⟨"PileCapsModel", "wholeSet", "()I"⟩, 23), (⟨"PileCapsModel", "solves", "(II)Z"⟩, 23), (⟨"PileCapsModel", "tell", "(IJJ)V"⟩, 23), (⟨"PileCapsModel", "shareOf", "(I)J"⟩, 23), (⟨"PileCapsModel", "isOver", "(I)Z"⟩, 23), (⟨"PileCapsModel", "holds", "(I)Z"⟩, 23), (⟨"PileCapsModel", "areApart", "(I)Z"⟩, 23)]
theorem lw_r3 : ∀ q ∈ lw_privs_3, lw_okq q := List.forall_mem_cons.mpr ⟨lw_p32, List.forall_mem_cons.mpr ⟨lw_p33, List.forall_mem_cons.mpr ⟨lw_p34, List.forall_mem_cons.mpr ⟨lw_p35, List.forall_mem_cons.mpr ⟨lw_p36, List.forall_mem_cons.mpr ⟨lw_p37, List.forall_mem_cons.mpr ⟨lw_p38, List.forall_mem_cons.mpr ⟨lw_p39, List.forall_mem_cons.mpr ⟨lw_p40, List.forall_mem_cons.mpr ⟨lw_p41, List.forall_mem_cons.mpr ⟨lw_p42, List.forall_mem_cons.mpr ⟨lw_p43, List.forall_mem_cons.mpr ⟨lw_p44, List.forall_mem_cons.mpr ⟨lw_p45, List.forall_mem_cons.mpr ⟨lw_p46, fun _ h => absurd h List.not_mem_nil⟩⟩⟩⟩⟩⟩⟩⟩⟩⟩⟩⟩⟩⟩⟩
def lw_privs : List (MethodName × Nat) := lw_privs_1 ++ (lw_privs_2 ++ (lw_privs_3))
def lw_tbl : List Cond := k2_sels lw_privs ++ tables_1
theorem lw_privs_ok : ∀ q ∈ lw_privs, lw_okq q := by
  show ∀ q ∈ lw_privs_1 ++ (lw_privs_2 ++ (lw_privs_3)), lw_okq q
  exact List.forall_mem_append.mpr ⟨lw_r1, List.forall_mem_append.mpr ⟨lw_r2, lw_r3⟩⟩
-- ===== end of PART A; then your names; then what follows =====
end
section
def RX0 : String := "PileCaps$Cap"
def TX0 : u_T := fun k => match k with
  | 0 => ("PileCaps$Cap", "piles", "LPileCaps$Piles;", true)
  | 1 => ("PileCaps$Cap", "ww", "J", false)
  | 2 => ("PileCaps$Cap", "wp", "J", false)
  | 3 => ("PileCaps$Cap", "wq", "J", false)
  | 4 => ("PileCaps$Cap", "pp", "J", false)
  | 5 => ("PileCaps$Cap", "pq", "J", false)
  | 6 => ("PileCaps$Cap", "qq", "J", false)
  | 7 => ("PileCaps$Cap", "below", "J", false)
  | 8 => ("PileCaps$Cap", "w", "J", false)
  | 9 => ("PileCaps$Cap", "p", "J", false)
  | _ => ("PileCaps$Cap", "q", "J", false)
def tyX0 : Nat → FieldType := fun k => match k with
  | 0 => .object "PileCaps$Piles"
  | 1 => .long
  | 2 => .long
  | 3 => .long
  | 4 => .long
  | 5 => .long
  | 6 => .long
  | 7 => .long
  | 8 => .long
  | 9 => .long
  | _ => .long
theorem nmX0 : ∀ a, a < 11 → ∀ b, b < 11 → a ≠ b → (TX0 a).2.1 ≠ (TX0 b).2.1 := by decide +kernel
theorem tyX0_ok : ∀ k, k < 11 → parseFieldDescriptor (TX0 k).2.2.1 = some (tyX0 k) := by decide +kernel
abbrev cX0_init : ByteArray := prog_2_method_1_code
def yX0_init : MethodName := ⟨RX0, "<init>", "(LPileCaps$Piles;)V"⟩
abbrev cX0_standOn : ByteArray := prog_2_method_2_code
def yX0_standOn : MethodName := ⟨RX0, "standOn", "(I)Z"⟩
abbrev cX0_take : ByteArray := prog_2_method_3_code
def yX0_take : MethodName := ⟨RX0, "take", "(LPileCaps$Loads;I)V"⟩
abbrev cX0_share : ByteArray := prog_2_method_4_code
def yX0_share : MethodName := ⟨RX0, "share", "(I)J"⟩
def RX1 : String := "PileCaps$Driving"
def TX1 : u_T := fun k => match k with
  | 0 => ("PileCaps$Driving", "depth", "I", false)
  | 1 => ("PileCaps$Driving", "blows", "I", false)
  | 2 => ("PileCaps$Driving", "left", "I", false)
  | 3 => ("PileCaps$Driving", "most", "I", false)
  | _ => ("PileCaps$Driving", "used", "I", false)
def tyX1 : Nat → FieldType := fun k => match k with
  | 0 => .int
  | 1 => .int
  | 2 => .int
  | 3 => .int
  | _ => .int
theorem nmX1 : ∀ a, a < 5 → ∀ b, b < 5 → a ≠ b → (TX1 a).2.1 ≠ (TX1 b).2.1 := by decide +kernel
theorem tyX1_ok : ∀ k, k < 5 → parseFieldDescriptor (TX1 k).2.2.1 = some (tyX1 k) := by decide +kernel
abbrev cX1_init : ByteArray := prog_3_method_1_code
def yX1_init : MethodName := ⟨RX1, "<init>", "()V"⟩
abbrev cX1_run : ByteArray := prog_3_method_2_code
def yX1_run : MethodName := ⟨RX1, "run", "(LPileCaps$Ground;III)V"⟩
abbrev cX1_goThrough : ByteArray := prog_3_method_3_code
def yX1_goThrough : MethodName := ⟨RX1, "goThrough", "(III)Z"⟩
def RX2 : String := "PileCaps$Ground"
def TX2 : u_T := fun k => match k with
  | 0 => ("PileCaps$Ground", "thick", "[I", true)
  | 1 => ("PileCaps$Ground", "side", "[I", true)
  | 2 => ("PileCaps$Ground", "tip", "[I", true)
  | 3 => ("PileCaps$Ground", "size", "I", false)
  | _ => ("PileCaps$Ground", "scour", "I", false)
def tyX2 : Nat → FieldType := fun k => match k with
  | 0 => .array .int
  | 1 => .array .int
  | 2 => .array .int
  | 3 => .int
  | _ => .int
theorem nmX2 : ∀ a, a < 5 → ∀ b, b < 5 → a ≠ b → (TX2 a).2.1 ≠ (TX2 b).2.1 := by decide +kernel
theorem tyX2_ok : ∀ k, k < 5 → parseFieldDescriptor (TX2 k).2.2.1 = some (tyX2 k) := by decide +kernel
abbrev cX2_init : ByteArray := prog_4_method_1_code
def yX2_init : MethodName := ⟨RX2, "<init>", "()V"⟩
abbrev cX2_has : ByteArray := prog_4_method_2_code
def yX2_has : MethodName := ⟨RX2, "has", "(I)Z"⟩
abbrev cX2_add : ByteArray := prog_4_method_3_code
def yX2_add : MethodName := ⟨RX2, "add", "(III)I"⟩
abbrev cX2_setSide : ByteArray := prog_4_method_4_code
def yX2_setSide : MethodName := ⟨RX2, "setSide", "(II)I"⟩
abbrev cX2_setTip : ByteArray := prog_4_method_5_code
def yX2_setTip : MethodName := ⟨RX2, "setTip", "(II)I"⟩
abbrev cX2_setScour : ByteArray := prog_4_method_6_code
def yX2_setScour : MethodName := ⟨RX2, "setScour", "(I)I"⟩
abbrev cX2_layerAt : ByteArray := prog_4_method_7_code
def yX2_layerAt : MethodName := ⟨RX2, "layerAt", "(I)I"⟩
abbrev cX2_sideAt : ByteArray := prog_4_method_8_code
def yX2_sideAt : MethodName := ⟨RX2, "sideAt", "(I)I"⟩
abbrev cX2_tipBelow : ByteArray := prog_4_method_9_code
def yX2_tipBelow : MethodName := ⟨RX2, "tipBelow", "(I)I"⟩
abbrev cX2_pullOf : ByteArray := prog_4_method_10_code
def yX2_pullOf : MethodName := ⟨RX2, "pullOf", "(I)I"⟩
abbrev cX2_bearingOf : ByteArray := prog_4_method_11_code
def yX2_bearingOf : MethodName := ⟨RX2, "bearingOf", "(I)I"⟩
def RX3 : String := "PileCaps$Limits"
def TX3 : u_T := fun k => match k with
  | 0 => ("PileCaps$Limits", "pull", "[I", true)
  | 1 => ("PileCaps$Limits", "bearing", "[I", true)
  | _ => ("PileCaps$Limits", "near", "[I", true)
def tyX3 : Nat → FieldType := fun k => match k with
  | 0 => .array .int
  | 1 => .array .int
  | _ => .array .int
theorem nmX3 : ∀ a, a < 3 → ∀ b, b < 3 → a ≠ b → (TX3 a).2.1 ≠ (TX3 b).2.1 := by decide +kernel
theorem tyX3_ok : ∀ k, k < 3 → parseFieldDescriptor (TX3 k).2.2.1 = some (tyX3 k) := by decide +kernel
abbrev cX3_init : ByteArray := prog_5_method_1_code
def yX3_init : MethodName := ⟨RX3, "<init>", "()V"⟩
abbrev cX3_measure : ByteArray := prog_5_method_2_code
def yX3_measure : MethodName := ⟨RX3, "measure", "(LPileCaps$Ground;LPileCaps$Piles;)V"⟩
abbrev cX3_measureSpacing : ByteArray := prog_5_method_3_code
def yX3_measureSpacing : MethodName := ⟨RX3, "measureSpacing", "(LPileCaps$Piles;I)V"⟩
abbrev cX3_against : ByteArray := prog_5_method_4_code
def yX3_against : MethodName := ⟨RX3, "against", "(IJ)J"⟩
abbrev cX3_spaced : ByteArray := prog_5_method_5_code
def yX3_spaced : MethodName := ⟨RX3, "spaced", "(I)Z"⟩
def RX4 : String := "PileCaps$Loads"
def TX4 : u_T := fun k => match k with
  | 0 => ("PileCaps$Loads", "size", "[I", true)
  | 1 => ("PileCaps$Loads", "force", "[J", true)
  | 2 => ("PileCaps$Loads", "timesX", "[J", true)
  | _ => ("PileCaps$Loads", "timesY", "[J", true)
def tyX4 : Nat → FieldType := fun k => match k with
  | 0 => .array .int
  | 1 => .array .long
  | 2 => .array .long
  | _ => .array .long
theorem nmX4 : ∀ a, a < 4 → ∀ b, b < 4 → a ≠ b → (TX4 a).2.1 ≠ (TX4 b).2.1 := by decide +kernel
theorem tyX4_ok : ∀ k, k < 4 → parseFieldDescriptor (TX4 k).2.2.1 = some (tyX4 k) := by decide +kernel
abbrev cX4_init : ByteArray := prog_6_method_1_code
def yX4_init : MethodName := ⟨RX4, "<init>", "()V"⟩
abbrev cX4_add : ByteArray := prog_6_method_2_code
def yX4_add : MethodName := ⟨RX4, "add", "(IIII)I"⟩
abbrev cX4_clear : ByteArray := prog_6_method_3_code
def yX4_clear : MethodName := ⟨RX4, "clear", "(I)I"⟩
abbrev cX4_all : ByteArray := prog_6_method_4_code
def yX4_all : MethodName := ⟨RX4, "all", "()I"⟩
def RX5 : String := "PileCaps$Piles"
def TX5 : u_T := fun k => match k with
  | 0 => ("PileCaps$Piles", "x", "[I", true)
  | 1 => ("PileCaps$Piles", "y", "[I", true)
  | 2 => ("PileCaps$Piles", "length", "[I", true)
  | 3 => ("PileCaps$Piles", "stiffness", "[I", true)
  | 4 => ("PileCaps$Piles", "whole", "I", false)
  | _ => ("PileCaps$Piles", "size", "I", false)
def tyX5 : Nat → FieldType := fun k => match k with
  | 0 => .array .int
  | 1 => .array .int
  | 2 => .array .int
  | 3 => .array .int
  | 4 => .int
  | _ => .int
theorem nmX5 : ∀ a, a < 6 → ∀ b, b < 6 → a ≠ b → (TX5 a).2.1 ≠ (TX5 b).2.1 := by decide +kernel
theorem tyX5_ok : ∀ k, k < 6 → parseFieldDescriptor (TX5 k).2.2.1 = some (tyX5 k) := by decide +kernel
abbrev cX5_init : ByteArray := prog_7_method_1_code
def yX5_init : MethodName := ⟨RX5, "<init>", "()V"⟩
abbrev cX5_has : ByteArray := prog_7_method_2_code
def yX5_has : MethodName := ⟨RX5, "has", "(I)Z"⟩
abbrev cX5_isWhole : ByteArray := prog_7_method_3_code
def yX5_isWhole : MethodName := ⟨RX5, "isWhole", "(I)Z"⟩
abbrev cX5_add : ByteArray := prog_7_method_4_code
def yX5_add : MethodName := ⟨RX5, "add", "(IIII)I"⟩
abbrev cX5_place : ByteArray := prog_7_method_5_code
def yX5_place : MethodName := ⟨RX5, "place", "(III)V"⟩
abbrev cX5_setWhole : ByteArray := prog_7_method_6_code
def yX5_setWhole : MethodName := ⟨RX5, "setWhole", "(IZ)V"⟩
def RX6 : String := "PileCaps$Told"
def TX6 : u_T := fun k => match k with
  | 0 => ("PileCaps$Told", "above", "[J", true)
  | 1 => ("PileCaps$Told", "below", "[J", true)
  | _ => ("PileCaps$Told", "size", "I", false)
def tyX6 : Nat → FieldType := fun k => match k with
  | 0 => .array .long
  | 1 => .array .long
  | _ => .int
theorem nmX6 : ∀ a, a < 3 → ∀ b, b < 3 → a ≠ b → (TX6 a).2.1 ≠ (TX6 b).2.1 := by decide +kernel
theorem tyX6_ok : ∀ k, k < 3 → parseFieldDescriptor (TX6 k).2.2.1 = some (tyX6 k) := by decide +kernel
abbrev cX6_init : ByteArray := prog_8_method_1_code
def yX6_init : MethodName := ⟨RX6, "<init>", "()V"⟩
abbrev cX6_clear : ByteArray := prog_8_method_2_code
def yX6_clear : MethodName := ⟨RX6, "clear", "()V"⟩
abbrev cX6_add : ByteArray := prog_8_method_3_code
def yX6_add : MethodName := ⟨RX6, "add", "(JJ)V"⟩
def RX7 : String := "PileCaps"
def TX7 : u_T := fun k => match k with
  | 0 => ("PileCaps", "ground", "LPileCaps$Ground;", true)
  | 1 => ("PileCaps", "piles", "LPileCaps$Piles;", true)
  | 2 => ("PileCaps", "loads", "LPileCaps$Loads;", true)
  | 3 => ("PileCaps", "cap", "LPileCaps$Cap;", true)
  | 4 => ("PileCaps", "limits", "LPileCaps$Limits;", true)
  | 5 => ("PileCaps", "driving", "LPileCaps$Driving;", true)
  | 6 => ("PileCaps", "told", "LPileCaps$Told;", true)
  | _ => ("PileCaps", "spacing", "I", false)
def tyX7 : Nat → FieldType := fun k => match k with
  | 0 => .object "PileCaps$Ground"
  | 1 => .object "PileCaps$Piles"
  | 2 => .object "PileCaps$Loads"
  | 3 => .object "PileCaps$Cap"
  | 4 => .object "PileCaps$Limits"
  | 5 => .object "PileCaps$Driving"
  | 6 => .object "PileCaps$Told"
  | _ => .int
theorem nmX7 : ∀ a, a < 8 → ∀ b, b < 8 → a ≠ b → (TX7 a).2.1 ≠ (TX7 b).2.1 := by decide +kernel
theorem tyX7_ok : ∀ k, k < 8 → parseFieldDescriptor (TX7 k).2.2.1 = some (tyX7 k) := by decide +kernel
abbrev cX7_init : ByteArray := prog_1_method_1_code
def yX7_init : MethodName := ⟨RX7, "<init>", "()V"⟩
abbrev cX7_layer : ByteArray := prog_1_method_2_code
def yX7_layer : MethodName := ⟨RX7, "layer", "(III)I"⟩
abbrev cX7_change : ByteArray := prog_1_method_3_code
def yX7_change : MethodName := ⟨RX7, "change", "(III)I"⟩
abbrev cX7_rule : ByteArray := prog_1_method_4_code
def yX7_rule : MethodName := ⟨RX7, "rule", "(II)I"⟩
abbrev cX7_pile : ByteArray := prog_1_method_5_code
def yX7_pile : MethodName := ⟨RX7, "pile", "(IIII)I"⟩
abbrev cX7_shift : ByteArray := prog_1_method_6_code
def yX7_shift : MethodName := ⟨RX7, "shift", "(III)I"⟩
abbrev cX7_whole : ByteArray := prog_1_method_7_code
def yX7_whole : MethodName := ⟨RX7, "whole", "(IZ)I"⟩
abbrev cX7_about : ByteArray := prog_1_method_8_code
def yX7_about : MethodName := ⟨RX7, "about", "(II)I"⟩
abbrev cX7_load : ByteArray := prog_1_method_9_code
def yX7_load : MethodName := ⟨RX7, "load", "(IIII)I"⟩
abbrev cX7_noLoads : ByteArray := prog_1_method_10_code
def yX7_noLoads : MethodName := ⟨RX7, "noLoads", "(I)I"⟩
abbrev cX7_shares : ByteArray := prog_1_method_11_code
def yX7_shares : MethodName := ⟨RX7, "shares", "(I)I"⟩
abbrev cX7_over : ByteArray := prog_1_method_12_code
def yX7_over : MethodName := ⟨RX7, "over", "(I)I"⟩
abbrev cX7_end : ByteArray := prog_1_method_13_code
def yX7_end : MethodName := ⟨RX7, "end", "(I)I"⟩
abbrev cX7_least : ByteArray := prog_1_method_14_code
def yX7_least : MethodName := ⟨RX7, "least", "()I"⟩
abbrev cX7_drive : ByteArray := prog_1_method_15_code
def yX7_drive : MethodName := ⟨RX7, "drive", "(III)I"⟩
abbrev cX7_drag : ByteArray := prog_1_method_16_code
def yX7_drag : MethodName := ⟨RX7, "drag", "(II)I"⟩
abbrev cX7_number : ByteArray := prog_1_method_17_code
def yX7_number : MethodName := ⟨RX7, "number", "(II)J"⟩
abbrev cX7_count : ByteArray := prog_1_method_18_code
def yX7_count : MethodName := ⟨RX7, "count", "(I)I"⟩
abbrev cX7_within : ByteArray := prog_1_method_19_code
def yX7_within : MethodName := ⟨RX7, "within", "(III)Z"⟩
abbrev cX7_isSide : ByteArray := prog_1_method_20_code
def yX7_isSide : MethodName := ⟨RX7, "isSide", "(I)Z"⟩
abbrev cX7_isTip : ByteArray := prog_1_method_21_code
def yX7_isTip : MethodName := ⟨RX7, "isTip", "(I)Z"⟩
abbrev cX7_isPlace : ByteArray := prog_1_method_22_code
def yX7_isPlace : MethodName := ⟨RX7, "isPlace", "(II)Z"⟩
abbrev cX7_isCase : ByteArray := prog_1_method_23_code
def yX7_isCase : MethodName := ⟨RX7, "isCase", "(I)Z"⟩
abbrev cX7_settle : ByteArray := prog_1_method_24_code
def yX7_settle : MethodName := ⟨RX7, "settle", "(I)I"⟩
abbrev cX7_overloaded : ByteArray := prog_1_method_25_code
def yX7_overloaded : MethodName := ⟨RX7, "overloaded", "(I)I"⟩
abbrev cX7_endsBefore : ByteArray := prog_1_method_26_code
def yX7_endsBefore : MethodName := ⟨RX7, "endsBefore", "(II)Z"⟩
abbrev cX7_holds : ByteArray := prog_1_method_27_code
def yX7_holds : MethodName := ⟨RX7, "holds", "(I)Z"⟩
abbrev cX7_tellDepth : ByteArray := prog_1_method_28_code
def yX7_tellDepth : MethodName := ⟨RX7, "tellDepth", "(II)V"⟩
abbrev cX7_commonDivisor : ByteArray := prog_1_method_29_code
def yX7_commonDivisor : MethodName := ⟨RX7, "commonDivisor", "(JJ)J"⟩
abbrev cX7_compare : ByteArray := prog_1_method_30_code
def yX7_compare : MethodName := ⟨RX7, "compare", "(JJJJ)I"⟩
def RX8 : String := "PileCapsModel"
def TX8 : u_T := fun k => match k with
  | 0 => ("PileCapsModel", "layers", "I", false)
  | 1 => ("PileCapsModel", "thick", "[I", true)
  | 2 => ("PileCapsModel", "side", "[I", true)
  | 3 => ("PileCapsModel", "tip", "[I", true)
  | 4 => ("PileCapsModel", "scour", "I", false)
  | 5 => ("PileCapsModel", "spacing", "I", false)
  | 6 => ("PileCapsModel", "piles", "I", false)
  | 7 => ("PileCapsModel", "pileX", "[I", true)
  | 8 => ("PileCapsModel", "pileY", "[I", true)
  | 9 => ("PileCapsModel", "pileLength", "[I", true)
  | 10 => ("PileCapsModel", "stiffness", "[I", true)
  | 11 => ("PileCapsModel", "isWhole", "[Z", true)
  | 12 => ("PileCapsModel", "loads", "[I", true)
  | 13 => ("PileCapsModel", "loadV", "[I", true)
  | 14 => ("PileCapsModel", "loadX", "[I", true)
  | 15 => ("PileCapsModel", "loadY", "[I", true)
  | 16 => ("PileCapsModel", "told", "I", false)
  | 17 => ("PileCapsModel", "above", "[J", true)
  | 18 => ("PileCapsModel", "below", "[J", true)
  | 19 => ("PileCapsModel", "worth", "J", false)
  | 20 => ("PileCapsModel", "sinks", "J", false)
  | 21 => ("PileCapsModel", "tiltX", "J", false)
  | _ => ("PileCapsModel", "tiltY", "J", false)
def tyX8 : Nat → FieldType := fun k => match k with
  | 0 => .int
  | 1 => .array .int
  | 2 => .array .int
  | 3 => .array .int
  | 4 => .int
  | 5 => .int
  | 6 => .int
  | 7 => .array .int
  | 8 => .array .int
  | 9 => .array .int
  | 10 => .array .int
  | 11 => .array .boolean
  | 12 => .array .int
  | 13 => .array .int
  | 14 => .array .int
  | 15 => .array .int
  | 16 => .int
  | 17 => .array .long
  | 18 => .array .long
  | 19 => .long
  | 20 => .long
  | 21 => .long
  | _ => .long
theorem nmX8 : ∀ a, a < 23 → ∀ b, b < 23 → a ≠ b → (TX8 a).2.1 ≠ (TX8 b).2.1 := by decide +kernel
theorem tyX8_ok : ∀ k, k < 23 → parseFieldDescriptor (TX8 k).2.2.1 = some (tyX8 k) := by decide +kernel
abbrev cX8_init : ByteArray := prog_10_method_1_code
def yX8_init : MethodName := ⟨RX8, "<init>", "()V"⟩
abbrev cX8_in : ByteArray := prog_10_method_2_code
def yX8_in : MethodName := ⟨RX8, "in", "(III)Z"⟩
abbrev cX8_layer : ByteArray := prog_10_method_3_code
def yX8_layer : MethodName := ⟨RX8, "layer", "(III)I"⟩
abbrev cX8_change : ByteArray := prog_10_method_4_code
def yX8_change : MethodName := ⟨RX8, "change", "(III)I"⟩
abbrev cX8_rule : ByteArray := prog_10_method_5_code
def yX8_rule : MethodName := ⟨RX8, "rule", "(II)I"⟩
abbrev cX8_layerOf : ByteArray := prog_10_method_6_code
def yX8_layerOf : MethodName := ⟨RX8, "layerOf", "(I)I"⟩
abbrev cX8_sideOf : ByteArray := prog_10_method_7_code
def yX8_sideOf : MethodName := ⟨RX8, "sideOf", "(I)I"⟩
abbrev cX8_tipOf : ByteArray := prog_10_method_8_code
def yX8_tipOf : MethodName := ⟨RX8, "tipOf", "(I)I"⟩
abbrev cX8_pullOf : ByteArray := prog_10_method_9_code
def yX8_pullOf : MethodName := ⟨RX8, "pullOf", "(I)I"⟩
abbrev cX8_isPile : ByteArray := prog_10_method_10_code
def yX8_isPile : MethodName := ⟨RX8, "isPile", "(I)Z"⟩
abbrev cX8_isPlace : ByteArray := prog_10_method_11_code
def yX8_isPlace : MethodName := ⟨RX8, "isPlace", "(II)Z"⟩
abbrev cX8_pile : ByteArray := prog_10_method_12_code
def yX8_pile : MethodName := ⟨RX8, "pile", "(IIII)I"⟩
abbrev cX8_shift : ByteArray := prog_10_method_13_code
def yX8_shift : MethodName := ⟨RX8, "shift", "(III)I"⟩
abbrev cX8_whole : ByteArray := prog_10_method_14_code
def yX8_whole : MethodName := ⟨RX8, "whole", "(IZ)I"⟩
abbrev cX8_bearingOf : ByteArray := prog_10_method_15_code
def yX8_bearingOf : MethodName := ⟨RX8, "bearingOf", "(I)I"⟩
abbrev cX8_about : ByteArray := prog_10_method_16_code
def yX8_about : MethodName := ⟨RX8, "about", "(II)I"⟩
abbrev cX8_isCase : ByteArray := prog_10_method_17_code
def yX8_isCase : MethodName := ⟨RX8, "isCase", "(I)Z"⟩
abbrev cX8_load : ByteArray := prog_10_method_18_code
def yX8_load : MethodName := ⟨RX8, "load", "(IIII)I"⟩
abbrev cX8_noLoads : ByteArray := prog_10_method_19_code
def yX8_noLoads : MethodName := ⟨RX8, "noLoads", "(I)I"⟩
abbrev cX8_wholeSet : ByteArray := prog_10_method_20_code
def yX8_wholeSet : MethodName := ⟨RX8, "wholeSet", "()I"⟩
abbrev cX8_solves : ByteArray := prog_10_method_21_code
def yX8_solves : MethodName := ⟨RX8, "solves", "(II)Z"⟩
abbrev cX8_shareOf : ByteArray := prog_10_method_22_code
def yX8_shareOf : MethodName := ⟨RX8, "shareOf", "(I)J"⟩
abbrev cX8_common : ByteArray := prog_10_method_23_code
def yX8_common : MethodName := ⟨RX8, "common", "(JJ)J"⟩
abbrev cX8_tell : ByteArray := prog_10_method_24_code
def yX8_tell : MethodName := ⟨RX8, "tell", "(IJJ)V"⟩
abbrev cX8_shares : ByteArray := prog_10_method_25_code
def yX8_shares : MethodName := ⟨RX8, "shares", "(I)I"⟩
abbrev cX8_isOver : ByteArray := prog_10_method_26_code
def yX8_isOver : MethodName := ⟨RX8, "isOver", "(I)Z"⟩
abbrev cX8_over : ByteArray := prog_10_method_27_code
def yX8_over : MethodName := ⟨RX8, "over", "(I)I"⟩
abbrev cX8_isLess : ByteArray := prog_10_method_28_code
def yX8_isLess : MethodName := ⟨RX8, "isLess", "(JJJJ)Z"⟩
abbrev cX8_end : ByteArray := prog_10_method_29_code
def yX8_end : MethodName := ⟨RX8, "end", "(I)I"⟩
abbrev cX8_areApart : ByteArray := prog_10_method_30_code
def yX8_areApart : MethodName := ⟨RX8, "areApart", "(I)Z"⟩
abbrev cX8_holds : ByteArray := prog_10_method_31_code
def yX8_holds : MethodName := ⟨RX8, "holds", "(I)Z"⟩
abbrev cX8_bits : ByteArray := prog_10_method_32_code
def yX8_bits : MethodName := ⟨RX8, "bits", "(I)I"⟩
abbrev cX8_least : ByteArray := prog_10_method_33_code
def yX8_least : MethodName := ⟨RX8, "least", "()I"⟩
abbrev cX8_drive : ByteArray := prog_10_method_34_code
def yX8_drive : MethodName := ⟨RX8, "drive", "(III)I"⟩
abbrev cX8_drag : ByteArray := prog_10_method_35_code
def yX8_drag : MethodName := ⟨RX8, "drag", "(II)I"⟩
abbrev cX8_number : ByteArray := prog_10_method_36_code
def yX8_number : MethodName := ⟨RX8, "number", "(II)J"⟩
abbrev cX8_count : ByteArray := prog_10_method_37_code
def yX8_count : MethodName := ⟨RX8, "count", "(I)I"⟩
def RJ6 : String := "java/lang/Integer"
def TJ6 : u_T := fun k => match k with
  | _ => ("", "", "", false)
abbrev cJ6_bitCount_0f7a4 : ByteArray := prog_11_method_49_code
def yJ6_bitCount_0f7a4 : MethodName := ⟨RJ6, "bitCount", "(I)I"⟩
def RJ13 : String := "java/lang/Long"
def TJ13 : u_T := fun k => match k with
  | _ => ("", "", "", false)
abbrev cJ13_compare_74951 : ByteArray := prog_12_method_42_code
def yJ13_compare_74951 : MethodName := ⟨RJ13, "compare", "(JJ)I"⟩
def RJ9 : String := "java/lang/Math"
def TJ9 : u_T := fun k => match k with
  | _ => ("", "", "", false)
abbrev cJ9_abs_067f4 : ByteArray := prog_13_method_61_code
def yJ9_abs_067f4 : MethodName := ⟨RJ9, "abs", "(J)J"⟩
abbrev cJ9_max_7cf53 : ByteArray := prog_13_method_65_code
def yJ9_max_7cf53 : MethodName := ⟨RJ9, "max", "(II)I"⟩
abbrev cJ9_min_7cf53 : ByteArray := prog_13_method_69_code
def yJ9_min_7cf53 : MethodName := ⟨RJ9, "min", "(II)I"⟩
def RL : String := "PileCapsLaw"
abbrev cL_law : ByteArray := code
def yL_law : MethodName := ⟨RL, "law", "([I)Z"⟩
abbrev vwCl : List vw_C := [(RX0, TX0, 11), (RX1, TX1, 5), (RX2, TX2, 5), (RX3, TX3, 3), (RX4, TX4, 4), (RX5, TX5, 6), (RX6, TX6, 3), (RX7, TX7, 8), (RX8, TX8, 23)]
theorem dX0_init_0 : decode cX0_init 0 = .ok (.aload_n 0, 1) := by decide +kernel
theorem dX0_init_1 : decode cX0_init 1 = .ok (.invokespecial 1, 3) := by decide +kernel
theorem dX0_init_4 : decode cX0_init 4 = .ok (.aload_n 0, 1) := by decide +kernel
theorem dX0_init_5 : decode cX0_init 5 = .ok (.lconst 1, 1) := by decide +kernel
theorem dX0_init_6 : decode cX0_init 6 = .ok (.putfield 7, 3) := by decide +kernel
theorem dX0_init_9 : decode cX0_init 9 = .ok (.aload_n 0, 1) := by decide +kernel
theorem dX0_init_10 : decode cX0_init 10 = .ok (.aload_n 1, 1) := by decide +kernel
theorem dX0_init_11 : decode cX0_init 11 = .ok (.putfield 13, 3) := by decide +kernel
theorem dX0_init_14 : decode cX0_init 14 = .ok (.return_, 1) := by decide +kernel
theorem dX0_standOn_0 : decode cX0_standOn 0 = .ok (.lconst 0, 1) := by decide +kernel
theorem dX0_standOn_1 : decode cX0_standOn 1 = .ok (.lstore_n 2, 1) := by decide +kernel
theorem dX0_standOn_2 : decode cX0_standOn 2 = .ok (.lconst 0, 1) := by decide +kernel
theorem dX0_standOn_3 : decode cX0_standOn 3 = .ok (.lstore 4, 2) := by decide +kernel
theorem dX0_standOn_5 : decode cX0_standOn 5 = .ok (.lconst 0, 1) := by decide +kernel
theorem dX0_standOn_6 : decode cX0_standOn 6 = .ok (.lstore 6, 2) := by decide +kernel
theorem dX0_standOn_8 : decode cX0_standOn 8 = .ok (.lconst 0, 1) := by decide +kernel
theorem dX0_standOn_9 : decode cX0_standOn 9 = .ok (.lstore 8, 2) := by decide +kernel
theorem dX0_standOn_11 : decode cX0_standOn 11 = .ok (.lconst 0, 1) := by decide +kernel
theorem dX0_standOn_12 : decode cX0_standOn 12 = .ok (.lstore 10, 2) := by decide +kernel
theorem dX0_standOn_14 : decode cX0_standOn 14 = .ok (.lconst 0, 1) := by decide +kernel
theorem dX0_standOn_15 : decode cX0_standOn 15 = .ok (.lstore 12, 2) := by decide +kernel
theorem dX0_standOn_17 : decode cX0_standOn 17 = .ok (.iconst 0, 1) := by decide +kernel
theorem dX0_standOn_18 : decode cX0_standOn 18 = .ok (.istore 14, 2) := by decide +kernel
theorem dX0_standOn_20 : decode cX0_standOn 20 = .ok (.iload 14, 2) := by decide +kernel
theorem dX0_standOn_22 : decode cX0_standOn 22 = .ok (.aload_n 0, 1) := by decide +kernel
theorem dX0_standOn_23 : decode cX0_standOn 23 = .ok (.getfield 13, 3) := by decide +kernel
theorem dX0_standOn_26 : decode cX0_standOn 26 = .ok (.getfield 17, 3) := by decide +kernel
theorem dX0_standOn_29 : decode cX0_standOn 29 = .ok (.if_icmp .ge 139, 3) := by decide +kernel
theorem dX0_standOn_32 : decode cX0_standOn 32 = .ok (.iload_n 1, 1) := by decide +kernel
theorem dX0_standOn_33 : decode cX0_standOn 33 = .ok (.iload 14, 2) := by decide +kernel
theorem dX0_standOn_35 : decode cX0_standOn 35 = .ok (.ishr, 1) := by decide +kernel
theorem dX0_standOn_36 : decode cX0_standOn 36 = .ok (.iconst 1, 1) := by decide +kernel
theorem dX0_standOn_37 : decode cX0_standOn 37 = .ok (.iand, 1) := by decide +kernel
theorem dX0_standOn_38 : decode cX0_standOn 38 = .ok (.ifCond .eq 124, 3) := by decide +kernel
theorem dX0_standOn_41 : decode cX0_standOn 41 = .ok (.aload_n 0, 1) := by decide +kernel
theorem dX0_standOn_42 : decode cX0_standOn 42 = .ok (.getfield 13, 3) := by decide +kernel
theorem dX0_standOn_45 : decode cX0_standOn 45 = .ok (.getfield 23, 3) := by decide +kernel
theorem dX0_standOn_48 : decode cX0_standOn 48 = .ok (.iload 14, 2) := by decide +kernel
theorem dX0_standOn_50 : decode cX0_standOn 50 = .ok (.iaload, 1) := by decide +kernel
theorem dX0_standOn_51 : decode cX0_standOn 51 = .ok (.istore 15, 2) := by decide +kernel
theorem dX0_standOn_53 : decode cX0_standOn 53 = .ok (.iload 15, 2) := by decide +kernel
theorem dX0_standOn_55 : decode cX0_standOn 55 = .ok (.aload_n 0, 1) := by decide +kernel
theorem dX0_standOn_56 : decode cX0_standOn 56 = .ok (.getfield 13, 3) := by decide +kernel
theorem dX0_standOn_59 : decode cX0_standOn 59 = .ok (.getfield 27, 3) := by decide +kernel
theorem dX0_standOn_62 : decode cX0_standOn 62 = .ok (.iload 14, 2) := by decide +kernel
theorem dX0_standOn_64 : decode cX0_standOn 64 = .ok (.iaload, 1) := by decide +kernel
theorem dX0_standOn_65 : decode cX0_standOn 65 = .ok (.imul, 1) := by decide +kernel
theorem dX0_standOn_66 : decode cX0_standOn 66 = .ok (.istore 16, 2) := by decide +kernel
theorem dX0_standOn_68 : decode cX0_standOn 68 = .ok (.iload 15, 2) := by decide +kernel
theorem dX0_standOn_70 : decode cX0_standOn 70 = .ok (.aload_n 0, 1) := by decide +kernel
theorem dX0_standOn_71 : decode cX0_standOn 71 = .ok (.getfield 13, 3) := by decide +kernel
theorem dX0_standOn_74 : decode cX0_standOn 74 = .ok (.getfield 30, 3) := by decide +kernel
theorem dX0_standOn_77 : decode cX0_standOn 77 = .ok (.iload 14, 2) := by decide +kernel
theorem dX0_standOn_79 : decode cX0_standOn 79 = .ok (.iaload, 1) := by decide +kernel
theorem dX0_standOn_80 : decode cX0_standOn 80 = .ok (.imul, 1) := by decide +kernel
theorem dX0_standOn_81 : decode cX0_standOn 81 = .ok (.istore 17, 2) := by decide +kernel
theorem dX0_standOn_83 : decode cX0_standOn 83 = .ok (.lload_n 2, 1) := by decide +kernel
theorem dX0_standOn_84 : decode cX0_standOn 84 = .ok (.iload 15, 2) := by decide +kernel
theorem dX0_standOn_86 : decode cX0_standOn 86 = .ok (.i2l, 1) := by decide +kernel
theorem dX0_standOn_87 : decode cX0_standOn 87 = .ok (.ladd, 1) := by decide +kernel
theorem dX0_standOn_88 : decode cX0_standOn 88 = .ok (.lstore_n 2, 1) := by decide +kernel
theorem dX0_standOn_89 : decode cX0_standOn 89 = .ok (.lload 4, 2) := by decide +kernel
theorem dX0_standOn_91 : decode cX0_standOn 91 = .ok (.iload 16, 2) := by decide +kernel
theorem dX0_standOn_93 : decode cX0_standOn 93 = .ok (.i2l, 1) := by decide +kernel
theorem dX0_standOn_94 : decode cX0_standOn 94 = .ok (.ladd, 1) := by decide +kernel
theorem dX0_standOn_95 : decode cX0_standOn 95 = .ok (.lstore 4, 2) := by decide +kernel
theorem dX0_standOn_97 : decode cX0_standOn 97 = .ok (.lload 6, 2) := by decide +kernel
theorem dX0_standOn_99 : decode cX0_standOn 99 = .ok (.iload 17, 2) := by decide +kernel
theorem dX0_standOn_101 : decode cX0_standOn 101 = .ok (.i2l, 1) := by decide +kernel
theorem dX0_standOn_102 : decode cX0_standOn 102 = .ok (.ladd, 1) := by decide +kernel
theorem dX0_standOn_103 : decode cX0_standOn 103 = .ok (.lstore 6, 2) := by decide +kernel
theorem dX0_standOn_105 : decode cX0_standOn 105 = .ok (.lload 8, 2) := by decide +kernel
theorem dX0_standOn_107 : decode cX0_standOn 107 = .ok (.iload 16, 2) := by decide +kernel
theorem dX0_standOn_109 : decode cX0_standOn 109 = .ok (.aload_n 0, 1) := by decide +kernel
theorem dX0_standOn_110 : decode cX0_standOn 110 = .ok (.getfield 13, 3) := by decide +kernel
theorem dX0_standOn_113 : decode cX0_standOn 113 = .ok (.getfield 27, 3) := by decide +kernel
theorem dX0_standOn_116 : decode cX0_standOn 116 = .ok (.iload 14, 2) := by decide +kernel
theorem dX0_standOn_118 : decode cX0_standOn 118 = .ok (.iaload, 1) := by decide +kernel
theorem dX0_standOn_119 : decode cX0_standOn 119 = .ok (.imul, 1) := by decide +kernel
theorem dX0_standOn_120 : decode cX0_standOn 120 = .ok (.i2l, 1) := by decide +kernel
theorem dX0_standOn_121 : decode cX0_standOn 121 = .ok (.ladd, 1) := by decide +kernel
theorem dX0_standOn_122 : decode cX0_standOn 122 = .ok (.lstore 8, 2) := by decide +kernel
theorem dX0_standOn_124 : decode cX0_standOn 124 = .ok (.lload 10, 2) := by decide +kernel
theorem dX0_standOn_126 : decode cX0_standOn 126 = .ok (.iload 16, 2) := by decide +kernel
theorem dX0_standOn_128 : decode cX0_standOn 128 = .ok (.aload_n 0, 1) := by decide +kernel
theorem dX0_standOn_129 : decode cX0_standOn 129 = .ok (.getfield 13, 3) := by decide +kernel
theorem dX0_standOn_132 : decode cX0_standOn 132 = .ok (.getfield 30, 3) := by decide +kernel
theorem dX0_standOn_135 : decode cX0_standOn 135 = .ok (.iload 14, 2) := by decide +kernel
theorem dX0_standOn_137 : decode cX0_standOn 137 = .ok (.iaload, 1) := by decide +kernel
theorem dX0_standOn_138 : decode cX0_standOn 138 = .ok (.imul, 1) := by decide +kernel
theorem dX0_standOn_139 : decode cX0_standOn 139 = .ok (.i2l, 1) := by decide +kernel
theorem dX0_standOn_140 : decode cX0_standOn 140 = .ok (.ladd, 1) := by decide +kernel
theorem dX0_standOn_141 : decode cX0_standOn 141 = .ok (.lstore 10, 2) := by decide +kernel
theorem dX0_standOn_143 : decode cX0_standOn 143 = .ok (.lload 12, 2) := by decide +kernel
theorem dX0_standOn_145 : decode cX0_standOn 145 = .ok (.iload 17, 2) := by decide +kernel
theorem dX0_standOn_147 : decode cX0_standOn 147 = .ok (.aload_n 0, 1) := by decide +kernel
theorem dX0_standOn_148 : decode cX0_standOn 148 = .ok (.getfield 13, 3) := by decide +kernel
theorem dX0_standOn_151 : decode cX0_standOn 151 = .ok (.getfield 30, 3) := by decide +kernel
theorem dX0_standOn_154 : decode cX0_standOn 154 = .ok (.iload 14, 2) := by decide +kernel
theorem dX0_standOn_156 : decode cX0_standOn 156 = .ok (.iaload, 1) := by decide +kernel
theorem dX0_standOn_157 : decode cX0_standOn 157 = .ok (.imul, 1) := by decide +kernel
theorem dX0_standOn_158 : decode cX0_standOn 158 = .ok (.i2l, 1) := by decide +kernel
theorem dX0_standOn_159 : decode cX0_standOn 159 = .ok (.ladd, 1) := by decide +kernel
theorem dX0_standOn_160 : decode cX0_standOn 160 = .ok (.lstore 12, 2) := by decide +kernel
theorem dX0_standOn_162 : decode cX0_standOn 162 = .ok (.iinc 14 1, 3) := by decide +kernel
theorem dX0_standOn_165 : decode cX0_standOn 165 = .ok (.goto (-145), 3) := by decide +kernel
theorem dX0_standOn_168 : decode cX0_standOn 168 = .ok (.aload_n 0, 1) := by decide +kernel
theorem dX0_standOn_169 : decode cX0_standOn 169 = .ok (.lload 8, 2) := by decide +kernel
theorem dX0_standOn_171 : decode cX0_standOn 171 = .ok (.lload 12, 2) := by decide +kernel
theorem dX0_standOn_173 : decode cX0_standOn 173 = .ok (.lmul, 1) := by decide +kernel
theorem dX0_standOn_174 : decode cX0_standOn 174 = .ok (.lload 10, 2) := by decide +kernel
theorem dX0_standOn_176 : decode cX0_standOn 176 = .ok (.lload 10, 2) := by decide +kernel
theorem dX0_standOn_178 : decode cX0_standOn 178 = .ok (.lmul, 1) := by decide +kernel
theorem dX0_standOn_179 : decode cX0_standOn 179 = .ok (.lsub, 1) := by decide +kernel
theorem dX0_standOn_180 : decode cX0_standOn 180 = .ok (.putfield 33, 3) := by decide +kernel
theorem dX0_standOn_183 : decode cX0_standOn 183 = .ok (.aload_n 0, 1) := by decide +kernel
theorem dX0_standOn_184 : decode cX0_standOn 184 = .ok (.lload 6, 2) := by decide +kernel
theorem dX0_standOn_186 : decode cX0_standOn 186 = .ok (.lload 10, 2) := by decide +kernel
theorem dX0_standOn_188 : decode cX0_standOn 188 = .ok (.lmul, 1) := by decide +kernel
theorem dX0_standOn_189 : decode cX0_standOn 189 = .ok (.lload 4, 2) := by decide +kernel
theorem dX0_standOn_191 : decode cX0_standOn 191 = .ok (.lload 12, 2) := by decide +kernel
theorem dX0_standOn_193 : decode cX0_standOn 193 = .ok (.lmul, 1) := by decide +kernel
theorem dX0_standOn_194 : decode cX0_standOn 194 = .ok (.lsub, 1) := by decide +kernel
theorem dX0_standOn_195 : decode cX0_standOn 195 = .ok (.putfield 36, 3) := by decide +kernel
theorem dX0_standOn_198 : decode cX0_standOn 198 = .ok (.aload_n 0, 1) := by decide +kernel
theorem dX0_standOn_199 : decode cX0_standOn 199 = .ok (.lload 4, 2) := by decide +kernel
theorem dX0_standOn_201 : decode cX0_standOn 201 = .ok (.lload 10, 2) := by decide +kernel
theorem dX0_standOn_203 : decode cX0_standOn 203 = .ok (.lmul, 1) := by decide +kernel
theorem dX0_standOn_204 : decode cX0_standOn 204 = .ok (.lload 6, 2) := by decide +kernel
theorem dX0_standOn_206 : decode cX0_standOn 206 = .ok (.lload 8, 2) := by decide +kernel
theorem dX0_standOn_208 : decode cX0_standOn 208 = .ok (.lmul, 1) := by decide +kernel
theorem dX0_standOn_209 : decode cX0_standOn 209 = .ok (.lsub, 1) := by decide +kernel
theorem dX0_standOn_210 : decode cX0_standOn 210 = .ok (.putfield 39, 3) := by decide +kernel
theorem dX0_standOn_213 : decode cX0_standOn 213 = .ok (.aload_n 0, 1) := by decide +kernel
theorem dX0_standOn_214 : decode cX0_standOn 214 = .ok (.lload_n 2, 1) := by decide +kernel
theorem dX0_standOn_215 : decode cX0_standOn 215 = .ok (.lload 12, 2) := by decide +kernel
theorem dX0_standOn_217 : decode cX0_standOn 217 = .ok (.lmul, 1) := by decide +kernel
theorem dX0_standOn_218 : decode cX0_standOn 218 = .ok (.lload 6, 2) := by decide +kernel
theorem dX0_standOn_220 : decode cX0_standOn 220 = .ok (.lload 6, 2) := by decide +kernel
theorem dX0_standOn_222 : decode cX0_standOn 222 = .ok (.lmul, 1) := by decide +kernel
theorem dX0_standOn_223 : decode cX0_standOn 223 = .ok (.lsub, 1) := by decide +kernel
theorem dX0_standOn_224 : decode cX0_standOn 224 = .ok (.putfield 42, 3) := by decide +kernel
theorem dX0_standOn_227 : decode cX0_standOn 227 = .ok (.aload_n 0, 1) := by decide +kernel
theorem dX0_standOn_228 : decode cX0_standOn 228 = .ok (.lload 4, 2) := by decide +kernel
theorem dX0_standOn_230 : decode cX0_standOn 230 = .ok (.lload 6, 2) := by decide +kernel
theorem dX0_standOn_232 : decode cX0_standOn 232 = .ok (.lmul, 1) := by decide +kernel
theorem dX0_standOn_233 : decode cX0_standOn 233 = .ok (.lload_n 2, 1) := by decide +kernel
theorem dX0_standOn_234 : decode cX0_standOn 234 = .ok (.lload 10, 2) := by decide +kernel
theorem dX0_standOn_236 : decode cX0_standOn 236 = .ok (.lmul, 1) := by decide +kernel
theorem dX0_standOn_237 : decode cX0_standOn 237 = .ok (.lsub, 1) := by decide +kernel
theorem dX0_standOn_238 : decode cX0_standOn 238 = .ok (.putfield 45, 3) := by decide +kernel
theorem dX0_standOn_241 : decode cX0_standOn 241 = .ok (.aload_n 0, 1) := by decide +kernel
theorem dX0_standOn_242 : decode cX0_standOn 242 = .ok (.lload_n 2, 1) := by decide +kernel
theorem dX0_standOn_243 : decode cX0_standOn 243 = .ok (.lload 8, 2) := by decide +kernel
theorem dX0_standOn_245 : decode cX0_standOn 245 = .ok (.lmul, 1) := by decide +kernel
theorem dX0_standOn_246 : decode cX0_standOn 246 = .ok (.lload 4, 2) := by decide +kernel
theorem dX0_standOn_248 : decode cX0_standOn 248 = .ok (.lload 4, 2) := by decide +kernel
theorem dX0_standOn_250 : decode cX0_standOn 250 = .ok (.lmul, 1) := by decide +kernel
theorem dX0_standOn_251 : decode cX0_standOn 251 = .ok (.lsub, 1) := by decide +kernel
theorem dX0_standOn_252 : decode cX0_standOn 252 = .ok (.putfield 48, 3) := by decide +kernel
theorem dX0_standOn_255 : decode cX0_standOn 255 = .ok (.aload_n 0, 1) := by decide +kernel
theorem dX0_standOn_256 : decode cX0_standOn 256 = .ok (.lload_n 2, 1) := by decide +kernel
theorem dX0_standOn_257 : decode cX0_standOn 257 = .ok (.aload_n 0, 1) := by decide +kernel
theorem dX0_standOn_258 : decode cX0_standOn 258 = .ok (.getfield 33, 3) := by decide +kernel
theorem dX0_standOn_261 : decode cX0_standOn 261 = .ok (.lmul, 1) := by decide +kernel
theorem dX0_standOn_262 : decode cX0_standOn 262 = .ok (.lload 4, 2) := by decide +kernel
theorem dX0_standOn_264 : decode cX0_standOn 264 = .ok (.aload_n 0, 1) := by decide +kernel
theorem dX0_standOn_265 : decode cX0_standOn 265 = .ok (.getfield 36, 3) := by decide +kernel
theorem dX0_standOn_268 : decode cX0_standOn 268 = .ok (.lmul, 1) := by decide +kernel
theorem dX0_standOn_269 : decode cX0_standOn 269 = .ok (.ladd, 1) := by decide +kernel
theorem dX0_standOn_270 : decode cX0_standOn 270 = .ok (.lload 6, 2) := by decide +kernel
theorem dX0_standOn_272 : decode cX0_standOn 272 = .ok (.aload_n 0, 1) := by decide +kernel
theorem dX0_standOn_273 : decode cX0_standOn 273 = .ok (.getfield 39, 3) := by decide +kernel
theorem dX0_standOn_276 : decode cX0_standOn 276 = .ok (.lmul, 1) := by decide +kernel
theorem dX0_standOn_277 : decode cX0_standOn 277 = .ok (.ladd, 1) := by decide +kernel
theorem dX0_standOn_278 : decode cX0_standOn 278 = .ok (.putfield 7, 3) := by decide +kernel
theorem dX0_standOn_281 : decode cX0_standOn 281 = .ok (.aload_n 0, 1) := by decide +kernel
theorem dX0_standOn_282 : decode cX0_standOn 282 = .ok (.getfield 7, 3) := by decide +kernel
theorem dX0_standOn_285 : decode cX0_standOn 285 = .ok (.lconst 0, 1) := by decide +kernel
theorem dX0_standOn_286 : decode cX0_standOn 286 = .ok (.lcmp, 1) := by decide +kernel
theorem dX0_standOn_287 : decode cX0_standOn 287 = .ok (.ifCond .le 7, 3) := by decide +kernel
theorem dX0_standOn_290 : decode cX0_standOn 290 = .ok (.iconst 1, 1) := by decide +kernel
theorem dX0_standOn_291 : decode cX0_standOn 291 = .ok (.goto 4, 3) := by decide +kernel
theorem dX0_standOn_294 : decode cX0_standOn 294 = .ok (.iconst 0, 1) := by decide +kernel
theorem dX0_standOn_295 : decode cX0_standOn 295 = .ok (.ireturn, 1) := by decide +kernel
theorem dX0_take_0 : decode cX0_take 0 = .ok (.aload_n 1, 1) := by decide +kernel
theorem dX0_take_1 : decode cX0_take 1 = .ok (.getfield 51, 3) := by decide +kernel
theorem dX0_take_4 : decode cX0_take 4 = .ok (.iload_n 2, 1) := by decide +kernel
theorem dX0_take_5 : decode cX0_take 5 = .ok (.laload, 1) := by decide +kernel
theorem dX0_take_6 : decode cX0_take 6 = .ok (.lstore_n 3, 1) := by decide +kernel
theorem dX0_take_7 : decode cX0_take 7 = .ok (.aload_n 1, 1) := by decide +kernel
theorem dX0_take_8 : decode cX0_take 8 = .ok (.getfield 57, 3) := by decide +kernel
theorem dX0_take_11 : decode cX0_take 11 = .ok (.iload_n 2, 1) := by decide +kernel
theorem dX0_take_12 : decode cX0_take 12 = .ok (.laload, 1) := by decide +kernel
theorem dX0_take_13 : decode cX0_take 13 = .ok (.lstore 5, 2) := by decide +kernel
theorem dX0_take_15 : decode cX0_take 15 = .ok (.aload_n 1, 1) := by decide +kernel
theorem dX0_take_16 : decode cX0_take 16 = .ok (.getfield 60, 3) := by decide +kernel
theorem dX0_take_19 : decode cX0_take 19 = .ok (.iload_n 2, 1) := by decide +kernel
theorem dX0_take_20 : decode cX0_take 20 = .ok (.laload, 1) := by decide +kernel
theorem dX0_take_21 : decode cX0_take 21 = .ok (.lstore 7, 2) := by decide +kernel
theorem dX0_take_23 : decode cX0_take 23 = .ok (.aload_n 0, 1) := by decide +kernel
theorem dX0_take_24 : decode cX0_take 24 = .ok (.aload_n 0, 1) := by decide +kernel
theorem dX0_take_25 : decode cX0_take 25 = .ok (.getfield 33, 3) := by decide +kernel
theorem dX0_take_28 : decode cX0_take 28 = .ok (.lload_n 3, 1) := by decide +kernel
theorem dX0_take_29 : decode cX0_take 29 = .ok (.lmul, 1) := by decide +kernel
theorem dX0_take_30 : decode cX0_take 30 = .ok (.aload_n 0, 1) := by decide +kernel
theorem dX0_take_31 : decode cX0_take 31 = .ok (.getfield 36, 3) := by decide +kernel
theorem dX0_take_34 : decode cX0_take 34 = .ok (.lload 5, 2) := by decide +kernel
theorem dX0_take_36 : decode cX0_take 36 = .ok (.lmul, 1) := by decide +kernel
theorem dX0_take_37 : decode cX0_take 37 = .ok (.ladd, 1) := by decide +kernel
theorem dX0_take_38 : decode cX0_take 38 = .ok (.aload_n 0, 1) := by decide +kernel
theorem dX0_take_39 : decode cX0_take 39 = .ok (.getfield 39, 3) := by decide +kernel
theorem dX0_take_42 : decode cX0_take 42 = .ok (.lload 7, 2) := by decide +kernel
theorem dX0_take_44 : decode cX0_take 44 = .ok (.lmul, 1) := by decide +kernel
theorem dX0_take_45 : decode cX0_take 45 = .ok (.ladd, 1) := by decide +kernel
theorem dX0_take_46 : decode cX0_take 46 = .ok (.putfield 63, 3) := by decide +kernel
theorem dX0_take_49 : decode cX0_take 49 = .ok (.aload_n 0, 1) := by decide +kernel
theorem dX0_take_50 : decode cX0_take 50 = .ok (.aload_n 0, 1) := by decide +kernel
theorem dX0_take_51 : decode cX0_take 51 = .ok (.getfield 36, 3) := by decide +kernel
theorem dX0_take_54 : decode cX0_take 54 = .ok (.lload_n 3, 1) := by decide +kernel
theorem dX0_take_55 : decode cX0_take 55 = .ok (.lmul, 1) := by decide +kernel
theorem dX0_take_56 : decode cX0_take 56 = .ok (.aload_n 0, 1) := by decide +kernel
theorem dX0_take_57 : decode cX0_take 57 = .ok (.getfield 42, 3) := by decide +kernel
theorem dX0_take_60 : decode cX0_take 60 = .ok (.lload 5, 2) := by decide +kernel
theorem dX0_take_62 : decode cX0_take 62 = .ok (.lmul, 1) := by decide +kernel
theorem dX0_take_63 : decode cX0_take 63 = .ok (.ladd, 1) := by decide +kernel
theorem dX0_take_64 : decode cX0_take 64 = .ok (.aload_n 0, 1) := by decide +kernel
theorem dX0_take_65 : decode cX0_take 65 = .ok (.getfield 45, 3) := by decide +kernel
theorem dX0_take_68 : decode cX0_take 68 = .ok (.lload 7, 2) := by decide +kernel
theorem dX0_take_70 : decode cX0_take 70 = .ok (.lmul, 1) := by decide +kernel
theorem dX0_take_71 : decode cX0_take 71 = .ok (.ladd, 1) := by decide +kernel
theorem dX0_take_72 : decode cX0_take 72 = .ok (.putfield 66, 3) := by decide +kernel
theorem dX0_take_75 : decode cX0_take 75 = .ok (.aload_n 0, 1) := by decide +kernel
theorem dX0_take_76 : decode cX0_take 76 = .ok (.aload_n 0, 1) := by decide +kernel
theorem dX0_take_77 : decode cX0_take 77 = .ok (.getfield 39, 3) := by decide +kernel
theorem dX0_take_80 : decode cX0_take 80 = .ok (.lload_n 3, 1) := by decide +kernel
theorem dX0_take_81 : decode cX0_take 81 = .ok (.lmul, 1) := by decide +kernel
theorem dX0_take_82 : decode cX0_take 82 = .ok (.aload_n 0, 1) := by decide +kernel
theorem dX0_take_83 : decode cX0_take 83 = .ok (.getfield 45, 3) := by decide +kernel
theorem dX0_take_86 : decode cX0_take 86 = .ok (.lload 5, 2) := by decide +kernel
theorem dX0_take_88 : decode cX0_take 88 = .ok (.lmul, 1) := by decide +kernel
theorem dX0_take_89 : decode cX0_take 89 = .ok (.ladd, 1) := by decide +kernel
theorem dX0_take_90 : decode cX0_take 90 = .ok (.aload_n 0, 1) := by decide +kernel
theorem dX0_take_91 : decode cX0_take 91 = .ok (.getfield 48, 3) := by decide +kernel
theorem dX0_take_94 : decode cX0_take 94 = .ok (.lload 7, 2) := by decide +kernel
theorem dX0_take_96 : decode cX0_take 96 = .ok (.lmul, 1) := by decide +kernel
theorem dX0_take_97 : decode cX0_take 97 = .ok (.ladd, 1) := by decide +kernel
theorem dX0_take_98 : decode cX0_take 98 = .ok (.putfield 69, 3) := by decide +kernel
theorem dX0_take_101 : decode cX0_take 101 = .ok (.return_, 1) := by decide +kernel
theorem dX0_share_0 : decode cX0_share 0 = .ok (.aload_n 0, 1) := by decide +kernel
theorem dX0_share_1 : decode cX0_share 1 = .ok (.getfield 13, 3) := by decide +kernel
theorem dX0_share_4 : decode cX0_share 4 = .ok (.getfield 23, 3) := by decide +kernel
theorem dX0_share_7 : decode cX0_share 7 = .ok (.iload_n 1, 1) := by decide +kernel
theorem dX0_share_8 : decode cX0_share 8 = .ok (.iaload, 1) := by decide +kernel
theorem dX0_share_9 : decode cX0_share 9 = .ok (.i2l, 1) := by decide +kernel
theorem dX0_share_10 : decode cX0_share 10 = .ok (.aload_n 0, 1) := by decide +kernel
theorem dX0_share_11 : decode cX0_share 11 = .ok (.getfield 63, 3) := by decide +kernel
theorem dX0_share_14 : decode cX0_share 14 = .ok (.aload_n 0, 1) := by decide +kernel
theorem dX0_share_15 : decode cX0_share 15 = .ok (.getfield 66, 3) := by decide +kernel
theorem dX0_share_18 : decode cX0_share 18 = .ok (.aload_n 0, 1) := by decide +kernel
theorem dX0_share_19 : decode cX0_share 19 = .ok (.getfield 13, 3) := by decide +kernel
theorem dX0_share_22 : decode cX0_share 22 = .ok (.getfield 27, 3) := by decide +kernel
theorem dX0_share_25 : decode cX0_share 25 = .ok (.iload_n 1, 1) := by decide +kernel
theorem dX0_share_26 : decode cX0_share 26 = .ok (.iaload, 1) := by decide +kernel
theorem dX0_share_27 : decode cX0_share 27 = .ok (.i2l, 1) := by decide +kernel
theorem dX0_share_28 : decode cX0_share 28 = .ok (.lmul, 1) := by decide +kernel
theorem dX0_share_29 : decode cX0_share 29 = .ok (.ladd, 1) := by decide +kernel
theorem dX0_share_30 : decode cX0_share 30 = .ok (.aload_n 0, 1) := by decide +kernel
theorem dX0_share_31 : decode cX0_share 31 = .ok (.getfield 69, 3) := by decide +kernel
theorem dX0_share_34 : decode cX0_share 34 = .ok (.aload_n 0, 1) := by decide +kernel
theorem dX0_share_35 : decode cX0_share 35 = .ok (.getfield 13, 3) := by decide +kernel
theorem dX0_share_38 : decode cX0_share 38 = .ok (.getfield 30, 3) := by decide +kernel
theorem dX0_share_41 : decode cX0_share 41 = .ok (.iload_n 1, 1) := by decide +kernel
theorem dX0_share_42 : decode cX0_share 42 = .ok (.iaload, 1) := by decide +kernel
theorem dX0_share_43 : decode cX0_share 43 = .ok (.i2l, 1) := by decide +kernel
theorem dX0_share_44 : decode cX0_share 44 = .ok (.lmul, 1) := by decide +kernel
theorem dX0_share_45 : decode cX0_share 45 = .ok (.ladd, 1) := by decide +kernel
theorem dX0_share_46 : decode cX0_share 46 = .ok (.lmul, 1) := by decide +kernel
theorem dX0_share_47 : decode cX0_share 47 = .ok (.lreturn, 1) := by decide +kernel
theorem dX1_init_0 : decode cX1_init 0 = .ok (.aload_n 0, 1) := by decide +kernel
theorem dX1_init_1 : decode cX1_init 1 = .ok (.invokespecial 1, 3) := by decide +kernel
theorem dX1_init_4 : decode cX1_init 4 = .ok (.return_, 1) := by decide +kernel
theorem dX1_run_0 : decode cX1_run 0 = .ok (.aload_n 0, 1) := by decide +kernel
theorem dX1_run_1 : decode cX1_run 1 = .ok (.iconst 0, 1) := by decide +kernel
theorem dX1_run_2 : decode cX1_run 2 = .ok (.putfield 7, 3) := by decide +kernel
theorem dX1_run_5 : decode cX1_run 5 = .ok (.aload_n 0, 1) := by decide +kernel
theorem dX1_run_6 : decode cX1_run 6 = .ok (.iconst 0, 1) := by decide +kernel
theorem dX1_run_7 : decode cX1_run 7 = .ok (.putfield 13, 3) := by decide +kernel
theorem dX1_run_10 : decode cX1_run 10 = .ok (.aload_n 0, 1) := by decide +kernel
theorem dX1_run_11 : decode cX1_run 11 = .ok (.iconst 0, 1) := by decide +kernel
theorem dX1_run_12 : decode cX1_run 12 = .ok (.putfield 16, 3) := by decide +kernel
theorem dX1_run_15 : decode cX1_run 15 = .ok (.aload_n 0, 1) := by decide +kernel
theorem dX1_run_16 : decode cX1_run 16 = .ok (.iconst 0, 1) := by decide +kernel
theorem dX1_run_17 : decode cX1_run 17 = .ok (.putfield 19, 3) := by decide +kernel
theorem dX1_run_20 : decode cX1_run 20 = .ok (.aload_n 0, 1) := by decide +kernel
theorem dX1_run_21 : decode cX1_run 21 = .ok (.iconst 0, 1) := by decide +kernel
theorem dX1_run_22 : decode cX1_run 22 = .ok (.putfield 22, 3) := by decide +kernel
theorem dX1_run_25 : decode cX1_run 25 = .ok (.iconst 1, 1) := by decide +kernel
theorem dX1_run_26 : decode cX1_run 26 = .ok (.istore 5, 2) := by decide +kernel
theorem dX1_run_28 : decode cX1_run 28 = .ok (.iconst 0, 1) := by decide +kernel
theorem dX1_run_29 : decode cX1_run 29 = .ok (.istore 6, 2) := by decide +kernel
theorem dX1_run_31 : decode cX1_run 31 = .ok (.iload 6, 2) := by decide +kernel
theorem dX1_run_33 : decode cX1_run 33 = .ok (.iload_n 2, 1) := by decide +kernel
theorem dX1_run_34 : decode cX1_run 34 = .ok (.if_icmp .ge 31, 3) := by decide +kernel
theorem dX1_run_37 : decode cX1_run 37 = .ok (.iload 5, 2) := by decide +kernel
theorem dX1_run_39 : decode cX1_run 39 = .ok (.ifCond .eq 26, 3) := by decide +kernel
theorem dX1_run_42 : decode cX1_run 42 = .ok (.aload_n 0, 1) := by decide +kernel
theorem dX1_run_43 : decode cX1_run 43 = .ok (.aload_n 1, 1) := by decide +kernel
theorem dX1_run_44 : decode cX1_run 44 = .ok (.iload 6, 2) := by decide +kernel
theorem dX1_run_46 : decode cX1_run 46 = .ok (.iconst 1, 1) := by decide +kernel
theorem dX1_run_47 : decode cX1_run 47 = .ok (.iadd, 1) := by decide +kernel
theorem dX1_run_48 : decode cX1_run 48 = .ok (.invokevirtual 25, 3) := by decide +kernel
theorem dX1_run_51 : decode cX1_run 51 = .ok (.iload_n 3, 1) := by decide +kernel
theorem dX1_run_52 : decode cX1_run 52 = .ok (.iload 4, 2) := by decide +kernel
theorem dX1_run_54 : decode cX1_run 54 = .ok (.invokevirtual 31, 3) := by decide +kernel
theorem dX1_run_57 : decode cX1_run 57 = .ok (.istore 5, 2) := by decide +kernel
theorem dX1_run_59 : decode cX1_run 59 = .ok (.iinc 6 1, 3) := by decide +kernel
theorem dX1_run_62 : decode cX1_run 62 = .ok (.goto (-31), 3) := by decide +kernel
theorem dX1_run_65 : decode cX1_run 65 = .ok (.return_, 1) := by decide +kernel
theorem dX1_goThrough_0 : decode cX1_goThrough 0 = .ok (.iconst 0, 1) := by decide +kernel
theorem dX1_goThrough_1 : decode cX1_goThrough 1 = .ok (.istore 4, 2) := by decide +kernel
theorem dX1_goThrough_3 : decode cX1_goThrough 3 = .ok (.iload 4, 2) := by decide +kernel
theorem dX1_goThrough_5 : decode cX1_goThrough 5 = .ok (.iload_n 3, 1) := by decide +kernel
theorem dX1_goThrough_6 : decode cX1_goThrough 6 = .ok (.if_icmp .ge 27, 3) := by decide +kernel
theorem dX1_goThrough_9 : decode cX1_goThrough 9 = .ok (.aload_n 0, 1) := by decide +kernel
theorem dX1_goThrough_10 : decode cX1_goThrough 10 = .ok (.getfield 16, 3) := by decide +kernel
theorem dX1_goThrough_13 : decode cX1_goThrough 13 = .ok (.iload_n 1, 1) := by decide +kernel
theorem dX1_goThrough_14 : decode cX1_goThrough 14 = .ok (.if_icmp .ge 19, 3) := by decide +kernel
theorem dX1_goThrough_17 : decode cX1_goThrough 17 = .ok (.iinc 4 1, 3) := by decide +kernel
theorem dX1_goThrough_20 : decode cX1_goThrough 20 = .ok (.aload_n 0, 1) := by decide +kernel
theorem dX1_goThrough_21 : decode cX1_goThrough 21 = .ok (.dup, 1) := by decide +kernel
theorem dX1_goThrough_22 : decode cX1_goThrough 22 = .ok (.getfield 16, 3) := by decide +kernel
theorem dX1_goThrough_25 : decode cX1_goThrough 25 = .ok (.iload_n 2, 1) := by decide +kernel
theorem dX1_goThrough_26 : decode cX1_goThrough 26 = .ok (.iadd, 1) := by decide +kernel
theorem dX1_goThrough_27 : decode cX1_goThrough 27 = .ok (.putfield 16, 3) := by decide +kernel
theorem dX1_goThrough_30 : decode cX1_goThrough 30 = .ok (.goto (-27), 3) := by decide +kernel
theorem dX1_goThrough_33 : decode cX1_goThrough 33 = .ok (.aload_n 0, 1) := by decide +kernel
theorem dX1_goThrough_34 : decode cX1_goThrough 34 = .ok (.dup, 1) := by decide +kernel
theorem dX1_goThrough_35 : decode cX1_goThrough 35 = .ok (.getfield 13, 3) := by decide +kernel
theorem dX1_goThrough_38 : decode cX1_goThrough 38 = .ok (.iload 4, 2) := by decide +kernel
theorem dX1_goThrough_40 : decode cX1_goThrough 40 = .ok (.iadd, 1) := by decide +kernel
theorem dX1_goThrough_41 : decode cX1_goThrough 41 = .ok (.putfield 13, 3) := by decide +kernel
theorem dX1_goThrough_44 : decode cX1_goThrough 44 = .ok (.aload_n 0, 1) := by decide +kernel
theorem dX1_goThrough_45 : decode cX1_goThrough 45 = .ok (.aload_n 0, 1) := by decide +kernel
theorem dX1_goThrough_46 : decode cX1_goThrough 46 = .ok (.getfield 19, 3) := by decide +kernel
theorem dX1_goThrough_49 : decode cX1_goThrough 49 = .ok (.iload 4, 2) := by decide +kernel
theorem dX1_goThrough_51 : decode cX1_goThrough 51 = .ok (.invokestatic 35, 3) := by decide +kernel
theorem dX1_goThrough_54 : decode cX1_goThrough 54 = .ok (.putfield 19, 3) := by decide +kernel
theorem dX1_goThrough_57 : decode cX1_goThrough 57 = .ok (.aload_n 0, 1) := by decide +kernel
theorem dX1_goThrough_58 : decode cX1_goThrough 58 = .ok (.getfield 16, 3) := by decide +kernel
theorem dX1_goThrough_61 : decode cX1_goThrough 61 = .ok (.iload_n 1, 1) := by decide +kernel
theorem dX1_goThrough_62 : decode cX1_goThrough 62 = .ok (.if_icmp .ge 5, 3) := by decide +kernel
theorem dX1_goThrough_65 : decode cX1_goThrough 65 = .ok (.iconst 0, 1) := by decide +kernel
theorem dX1_goThrough_66 : decode cX1_goThrough 66 = .ok (.ireturn, 1) := by decide +kernel
theorem dX1_goThrough_67 : decode cX1_goThrough 67 = .ok (.aload_n 0, 1) := by decide +kernel
theorem dX1_goThrough_68 : decode cX1_goThrough 68 = .ok (.dup, 1) := by decide +kernel
theorem dX1_goThrough_69 : decode cX1_goThrough 69 = .ok (.getfield 16, 3) := by decide +kernel
theorem dX1_goThrough_72 : decode cX1_goThrough 72 = .ok (.iload_n 1, 1) := by decide +kernel
theorem dX1_goThrough_73 : decode cX1_goThrough 73 = .ok (.isub, 1) := by decide +kernel
theorem dX1_goThrough_74 : decode cX1_goThrough 74 = .ok (.putfield 16, 3) := by decide +kernel
theorem dX1_goThrough_77 : decode cX1_goThrough 77 = .ok (.aload_n 0, 1) := by decide +kernel
theorem dX1_goThrough_78 : decode cX1_goThrough 78 = .ok (.dup, 1) := by decide +kernel
theorem dX1_goThrough_79 : decode cX1_goThrough 79 = .ok (.getfield 22, 3) := by decide +kernel
theorem dX1_goThrough_82 : decode cX1_goThrough 82 = .ok (.iload_n 1, 1) := by decide +kernel
theorem dX1_goThrough_83 : decode cX1_goThrough 83 = .ok (.iadd, 1) := by decide +kernel
theorem dX1_goThrough_84 : decode cX1_goThrough 84 = .ok (.putfield 22, 3) := by decide +kernel
theorem dX1_goThrough_87 : decode cX1_goThrough 87 = .ok (.aload_n 0, 1) := by decide +kernel
theorem dX1_goThrough_88 : decode cX1_goThrough 88 = .ok (.dup, 1) := by decide +kernel
theorem dX1_goThrough_89 : decode cX1_goThrough 89 = .ok (.getfield 7, 3) := by decide +kernel
theorem dX1_goThrough_92 : decode cX1_goThrough 92 = .ok (.iconst 1, 1) := by decide +kernel
theorem dX1_goThrough_93 : decode cX1_goThrough 93 = .ok (.iadd, 1) := by decide +kernel
theorem dX1_goThrough_94 : decode cX1_goThrough 94 = .ok (.putfield 7, 3) := by decide +kernel
theorem dX1_goThrough_97 : decode cX1_goThrough 97 = .ok (.iconst 1, 1) := by decide +kernel
theorem dX1_goThrough_98 : decode cX1_goThrough 98 = .ok (.ireturn, 1) := by decide +kernel
theorem dX2_init_0 : decode cX2_init 0 = .ok (.aload_n 0, 1) := by decide +kernel
theorem dX2_init_1 : decode cX2_init 1 = .ok (.invokespecial 3, 3) := by decide +kernel
theorem dX2_init_4 : decode cX2_init 4 = .ok (.aload_n 0, 1) := by decide +kernel
theorem dX2_init_5 : decode cX2_init 5 = .ok (.bipush 6, 2) := by decide +kernel
theorem dX2_init_7 : decode cX2_init 7 = .ok (.newarray .int, 2) := by decide +kernel
theorem dX2_init_9 : decode cX2_init 9 = .ok (.putfield 9, 3) := by decide +kernel
theorem dX2_init_12 : decode cX2_init 12 = .ok (.aload_n 0, 1) := by decide +kernel
theorem dX2_init_13 : decode cX2_init 13 = .ok (.bipush 6, 2) := by decide +kernel
theorem dX2_init_15 : decode cX2_init 15 = .ok (.newarray .int, 2) := by decide +kernel
theorem dX2_init_17 : decode cX2_init 17 = .ok (.putfield 15, 3) := by decide +kernel
theorem dX2_init_20 : decode cX2_init 20 = .ok (.aload_n 0, 1) := by decide +kernel
theorem dX2_init_21 : decode cX2_init 21 = .ok (.bipush 6, 2) := by decide +kernel
theorem dX2_init_23 : decode cX2_init 23 = .ok (.newarray .int, 2) := by decide +kernel
theorem dX2_init_25 : decode cX2_init 25 = .ok (.putfield 18, 3) := by decide +kernel
theorem dX2_init_28 : decode cX2_init 28 = .ok (.aload_n 0, 1) := by decide +kernel
theorem dX2_init_29 : decode cX2_init 29 = .ok (.iconst 0, 1) := by decide +kernel
theorem dX2_init_30 : decode cX2_init 30 = .ok (.putfield 21, 3) := by decide +kernel
theorem dX2_init_33 : decode cX2_init 33 = .ok (.aload_n 0, 1) := by decide +kernel
theorem dX2_init_34 : decode cX2_init 34 = .ok (.iconst 0, 1) := by decide +kernel
theorem dX2_init_35 : decode cX2_init 35 = .ok (.putfield 25, 3) := by decide +kernel
theorem dX2_init_38 : decode cX2_init 38 = .ok (.return_, 1) := by decide +kernel
theorem dX2_has_0 : decode cX2_has 0 = .ok (.iload_n 1, 1) := by decide +kernel
theorem dX2_has_1 : decode cX2_has 1 = .ok (.ifCond .lt 15, 3) := by decide +kernel
theorem dX2_has_4 : decode cX2_has 4 = .ok (.iload_n 1, 1) := by decide +kernel
theorem dX2_has_5 : decode cX2_has 5 = .ok (.aload_n 0, 1) := by decide +kernel
theorem dX2_has_6 : decode cX2_has 6 = .ok (.getfield 21, 3) := by decide +kernel
theorem dX2_has_9 : decode cX2_has 9 = .ok (.if_icmp .ge 7, 3) := by decide +kernel
theorem dX2_has_12 : decode cX2_has 12 = .ok (.iconst 1, 1) := by decide +kernel
theorem dX2_has_13 : decode cX2_has 13 = .ok (.goto 4, 3) := by decide +kernel
theorem dX2_has_16 : decode cX2_has 16 = .ok (.iconst 0, 1) := by decide +kernel
theorem dX2_has_17 : decode cX2_has 17 = .ok (.ireturn, 1) := by decide +kernel
theorem dX2_add_0 : decode cX2_add 0 = .ok (.aload_n 0, 1) := by decide +kernel
theorem dX2_add_1 : decode cX2_add 1 = .ok (.getfield 9, 3) := by decide +kernel
theorem dX2_add_4 : decode cX2_add 4 = .ok (.aload_n 0, 1) := by decide +kernel
theorem dX2_add_5 : decode cX2_add 5 = .ok (.getfield 21, 3) := by decide +kernel
theorem dX2_add_8 : decode cX2_add 8 = .ok (.iload_n 1, 1) := by decide +kernel
theorem dX2_add_9 : decode cX2_add 9 = .ok (.iastore, 1) := by decide +kernel
theorem dX2_add_10 : decode cX2_add 10 = .ok (.aload_n 0, 1) := by decide +kernel
theorem dX2_add_11 : decode cX2_add 11 = .ok (.getfield 15, 3) := by decide +kernel
theorem dX2_add_14 : decode cX2_add 14 = .ok (.aload_n 0, 1) := by decide +kernel
theorem dX2_add_15 : decode cX2_add 15 = .ok (.getfield 21, 3) := by decide +kernel
theorem dX2_add_18 : decode cX2_add 18 = .ok (.iload_n 2, 1) := by decide +kernel
theorem dX2_add_19 : decode cX2_add 19 = .ok (.iastore, 1) := by decide +kernel
theorem dX2_add_20 : decode cX2_add 20 = .ok (.aload_n 0, 1) := by decide +kernel
theorem dX2_add_21 : decode cX2_add 21 = .ok (.getfield 18, 3) := by decide +kernel
theorem dX2_add_24 : decode cX2_add 24 = .ok (.aload_n 0, 1) := by decide +kernel
theorem dX2_add_25 : decode cX2_add 25 = .ok (.getfield 21, 3) := by decide +kernel
theorem dX2_add_28 : decode cX2_add 28 = .ok (.iload_n 3, 1) := by decide +kernel
theorem dX2_add_29 : decode cX2_add 29 = .ok (.iastore, 1) := by decide +kernel
theorem dX2_add_30 : decode cX2_add 30 = .ok (.aload_n 0, 1) := by decide +kernel
theorem dX2_add_31 : decode cX2_add 31 = .ok (.dup, 1) := by decide +kernel
theorem dX2_add_32 : decode cX2_add 32 = .ok (.getfield 21, 3) := by decide +kernel
theorem dX2_add_35 : decode cX2_add 35 = .ok (.iconst 1, 1) := by decide +kernel
theorem dX2_add_36 : decode cX2_add 36 = .ok (.iadd, 1) := by decide +kernel
theorem dX2_add_37 : decode cX2_add 37 = .ok (.putfield 21, 3) := by decide +kernel
theorem dX2_add_40 : decode cX2_add 40 = .ok (.aload_n 0, 1) := by decide +kernel
theorem dX2_add_41 : decode cX2_add 41 = .ok (.getfield 21, 3) := by decide +kernel
theorem dX2_add_44 : decode cX2_add 44 = .ok (.iconst 1, 1) := by decide +kernel
theorem dX2_add_45 : decode cX2_add 45 = .ok (.isub, 1) := by decide +kernel
theorem dX2_add_46 : decode cX2_add 46 = .ok (.ireturn, 1) := by decide +kernel
theorem dX2_setSide_0 : decode cX2_setSide 0 = .ok (.aload_n 0, 1) := by decide +kernel
theorem dX2_setSide_1 : decode cX2_setSide 1 = .ok (.getfield 15, 3) := by decide +kernel
theorem dX2_setSide_4 : decode cX2_setSide 4 = .ok (.iload_n 1, 1) := by decide +kernel
theorem dX2_setSide_5 : decode cX2_setSide 5 = .ok (.iaload, 1) := by decide +kernel
theorem dX2_setSide_6 : decode cX2_setSide 6 = .ok (.istore_n 3, 1) := by decide +kernel
theorem dX2_setSide_7 : decode cX2_setSide 7 = .ok (.aload_n 0, 1) := by decide +kernel
theorem dX2_setSide_8 : decode cX2_setSide 8 = .ok (.getfield 15, 3) := by decide +kernel
theorem dX2_setSide_11 : decode cX2_setSide 11 = .ok (.iload_n 1, 1) := by decide +kernel
theorem dX2_setSide_12 : decode cX2_setSide 12 = .ok (.iload_n 2, 1) := by decide +kernel
theorem dX2_setSide_13 : decode cX2_setSide 13 = .ok (.iastore, 1) := by decide +kernel
theorem dX2_setSide_14 : decode cX2_setSide 14 = .ok (.iload_n 3, 1) := by decide +kernel
theorem dX2_setSide_15 : decode cX2_setSide 15 = .ok (.ireturn, 1) := by decide +kernel
theorem dX2_setTip_0 : decode cX2_setTip 0 = .ok (.aload_n 0, 1) := by decide +kernel
theorem dX2_setTip_1 : decode cX2_setTip 1 = .ok (.getfield 18, 3) := by decide +kernel
theorem dX2_setTip_4 : decode cX2_setTip 4 = .ok (.iload_n 1, 1) := by decide +kernel
theorem dX2_setTip_5 : decode cX2_setTip 5 = .ok (.iaload, 1) := by decide +kernel
theorem dX2_setTip_6 : decode cX2_setTip 6 = .ok (.istore_n 3, 1) := by decide +kernel
theorem dX2_setTip_7 : decode cX2_setTip 7 = .ok (.aload_n 0, 1) := by decide +kernel
theorem dX2_setTip_8 : decode cX2_setTip 8 = .ok (.getfield 18, 3) := by decide +kernel
theorem dX2_setTip_11 : decode cX2_setTip 11 = .ok (.iload_n 1, 1) := by decide +kernel
theorem dX2_setTip_12 : decode cX2_setTip 12 = .ok (.iload_n 2, 1) := by decide +kernel
theorem dX2_setTip_13 : decode cX2_setTip 13 = .ok (.iastore, 1) := by decide +kernel
theorem dX2_setTip_14 : decode cX2_setTip 14 = .ok (.iload_n 3, 1) := by decide +kernel
theorem dX2_setTip_15 : decode cX2_setTip 15 = .ok (.ireturn, 1) := by decide +kernel
theorem dX2_setScour_0 : decode cX2_setScour 0 = .ok (.aload_n 0, 1) := by decide +kernel
theorem dX2_setScour_1 : decode cX2_setScour 1 = .ok (.getfield 25, 3) := by decide +kernel
theorem dX2_setScour_4 : decode cX2_setScour 4 = .ok (.istore_n 2, 1) := by decide +kernel
theorem dX2_setScour_5 : decode cX2_setScour 5 = .ok (.aload_n 0, 1) := by decide +kernel
theorem dX2_setScour_6 : decode cX2_setScour 6 = .ok (.iload_n 1, 1) := by decide +kernel
theorem dX2_setScour_7 : decode cX2_setScour 7 = .ok (.putfield 25, 3) := by decide +kernel
theorem dX2_setScour_10 : decode cX2_setScour 10 = .ok (.iload_n 2, 1) := by decide +kernel
theorem dX2_setScour_11 : decode cX2_setScour 11 = .ok (.ireturn, 1) := by decide +kernel
theorem dX2_layerAt_0 : decode cX2_layerAt 0 = .ok (.iconst 0, 1) := by decide +kernel
theorem dX2_layerAt_1 : decode cX2_layerAt 1 = .ok (.istore_n 2, 1) := by decide +kernel
theorem dX2_layerAt_2 : decode cX2_layerAt 2 = .ok (.iconst 0, 1) := by decide +kernel
theorem dX2_layerAt_3 : decode cX2_layerAt 3 = .ok (.istore_n 3, 1) := by decide +kernel
theorem dX2_layerAt_4 : decode cX2_layerAt 4 = .ok (.iload_n 3, 1) := by decide +kernel
theorem dX2_layerAt_5 : decode cX2_layerAt 5 = .ok (.aload_n 0, 1) := by decide +kernel
theorem dX2_layerAt_6 : decode cX2_layerAt 6 = .ok (.getfield 21, 3) := by decide +kernel
theorem dX2_layerAt_9 : decode cX2_layerAt 9 = .ok (.if_icmp .ge 25, 3) := by decide +kernel
theorem dX2_layerAt_12 : decode cX2_layerAt 12 = .ok (.iload_n 2, 1) := by decide +kernel
theorem dX2_layerAt_13 : decode cX2_layerAt 13 = .ok (.aload_n 0, 1) := by decide +kernel
theorem dX2_layerAt_14 : decode cX2_layerAt 14 = .ok (.getfield 9, 3) := by decide +kernel
theorem dX2_layerAt_17 : decode cX2_layerAt 17 = .ok (.iload_n 3, 1) := by decide +kernel
theorem dX2_layerAt_18 : decode cX2_layerAt 18 = .ok (.iaload, 1) := by decide +kernel
theorem dX2_layerAt_19 : decode cX2_layerAt 19 = .ok (.iadd, 1) := by decide +kernel
theorem dX2_layerAt_20 : decode cX2_layerAt 20 = .ok (.istore_n 2, 1) := by decide +kernel
theorem dX2_layerAt_21 : decode cX2_layerAt 21 = .ok (.iload_n 1, 1) := by decide +kernel
theorem dX2_layerAt_22 : decode cX2_layerAt 22 = .ok (.iload_n 2, 1) := by decide +kernel
theorem dX2_layerAt_23 : decode cX2_layerAt 23 = .ok (.if_icmp .ge 5, 3) := by decide +kernel
theorem dX2_layerAt_26 : decode cX2_layerAt 26 = .ok (.iload_n 3, 1) := by decide +kernel
theorem dX2_layerAt_27 : decode cX2_layerAt 27 = .ok (.ireturn, 1) := by decide +kernel
theorem dX2_layerAt_28 : decode cX2_layerAt 28 = .ok (.iinc 3 1, 3) := by decide +kernel
theorem dX2_layerAt_31 : decode cX2_layerAt 31 = .ok (.goto (-27), 3) := by decide +kernel
theorem dX2_layerAt_34 : decode cX2_layerAt 34 = .ok (.aload_n 0, 1) := by decide +kernel
theorem dX2_layerAt_35 : decode cX2_layerAt 35 = .ok (.getfield 21, 3) := by decide +kernel
theorem dX2_layerAt_38 : decode cX2_layerAt 38 = .ok (.iconst 1, 1) := by decide +kernel
theorem dX2_layerAt_39 : decode cX2_layerAt 39 = .ok (.isub, 1) := by decide +kernel
theorem dX2_layerAt_40 : decode cX2_layerAt 40 = .ok (.ireturn, 1) := by decide +kernel
theorem dX2_sideAt_0 : decode cX2_sideAt 0 = .ok (.aload_n 0, 1) := by decide +kernel
theorem dX2_sideAt_1 : decode cX2_sideAt 1 = .ok (.iload_n 1, 1) := by decide +kernel
theorem dX2_sideAt_2 : decode cX2_sideAt 2 = .ok (.invokevirtual 28, 3) := by decide +kernel
theorem dX2_sideAt_5 : decode cX2_sideAt 5 = .ok (.istore_n 2, 1) := by decide +kernel
theorem dX2_sideAt_6 : decode cX2_sideAt 6 = .ok (.iload_n 2, 1) := by decide +kernel
theorem dX2_sideAt_7 : decode cX2_sideAt 7 = .ok (.ifCond .lt 11, 3) := by decide +kernel
theorem dX2_sideAt_10 : decode cX2_sideAt 10 = .ok (.iload_n 1, 1) := by decide +kernel
theorem dX2_sideAt_11 : decode cX2_sideAt 11 = .ok (.aload_n 0, 1) := by decide +kernel
theorem dX2_sideAt_12 : decode cX2_sideAt 12 = .ok (.getfield 25, 3) := by decide +kernel
theorem dX2_sideAt_15 : decode cX2_sideAt 15 = .ok (.if_icmp .ge 7, 3) := by decide +kernel
theorem dX2_sideAt_18 : decode cX2_sideAt 18 = .ok (.iconst 0, 1) := by decide +kernel
theorem dX2_sideAt_19 : decode cX2_sideAt 19 = .ok (.goto 9, 3) := by decide +kernel
theorem dX2_sideAt_22 : decode cX2_sideAt 22 = .ok (.aload_n 0, 1) := by decide +kernel
theorem dX2_sideAt_23 : decode cX2_sideAt 23 = .ok (.getfield 15, 3) := by decide +kernel
theorem dX2_sideAt_26 : decode cX2_sideAt 26 = .ok (.iload_n 2, 1) := by decide +kernel
theorem dX2_sideAt_27 : decode cX2_sideAt 27 = .ok (.iaload, 1) := by decide +kernel
theorem dX2_sideAt_28 : decode cX2_sideAt 28 = .ok (.ireturn, 1) := by decide +kernel
theorem dX2_tipBelow_0 : decode cX2_tipBelow 0 = .ok (.aload_n 0, 1) := by decide +kernel
theorem dX2_tipBelow_1 : decode cX2_tipBelow 1 = .ok (.iload_n 1, 1) := by decide +kernel
theorem dX2_tipBelow_2 : decode cX2_tipBelow 2 = .ok (.invokevirtual 28, 3) := by decide +kernel
theorem dX2_tipBelow_5 : decode cX2_tipBelow 5 = .ok (.istore_n 2, 1) := by decide +kernel
theorem dX2_tipBelow_6 : decode cX2_tipBelow 6 = .ok (.iload_n 2, 1) := by decide +kernel
theorem dX2_tipBelow_7 : decode cX2_tipBelow 7 = .ok (.ifCond .ge 7, 3) := by decide +kernel
theorem dX2_tipBelow_10 : decode cX2_tipBelow 10 = .ok (.iconst 0, 1) := by decide +kernel
theorem dX2_tipBelow_11 : decode cX2_tipBelow 11 = .ok (.goto 9, 3) := by decide +kernel
theorem dX2_tipBelow_14 : decode cX2_tipBelow 14 = .ok (.aload_n 0, 1) := by decide +kernel
theorem dX2_tipBelow_15 : decode cX2_tipBelow 15 = .ok (.getfield 18, 3) := by decide +kernel
theorem dX2_tipBelow_18 : decode cX2_tipBelow 18 = .ok (.iload_n 2, 1) := by decide +kernel
theorem dX2_tipBelow_19 : decode cX2_tipBelow 19 = .ok (.iaload, 1) := by decide +kernel
theorem dX2_tipBelow_20 : decode cX2_tipBelow 20 = .ok (.ireturn, 1) := by decide +kernel
theorem dX2_pullOf_0 : decode cX2_pullOf 0 = .ok (.iconst 0, 1) := by decide +kernel
theorem dX2_pullOf_1 : decode cX2_pullOf 1 = .ok (.istore_n 2, 1) := by decide +kernel
theorem dX2_pullOf_2 : decode cX2_pullOf 2 = .ok (.iconst 0, 1) := by decide +kernel
theorem dX2_pullOf_3 : decode cX2_pullOf 3 = .ok (.istore_n 3, 1) := by decide +kernel
theorem dX2_pullOf_4 : decode cX2_pullOf 4 = .ok (.iconst 0, 1) := by decide +kernel
theorem dX2_pullOf_5 : decode cX2_pullOf 5 = .ok (.istore 4, 2) := by decide +kernel
theorem dX2_pullOf_7 : decode cX2_pullOf 7 = .ok (.iload 4, 2) := by decide +kernel
theorem dX2_pullOf_9 : decode cX2_pullOf 9 = .ok (.aload_n 0, 1) := by decide +kernel
theorem dX2_pullOf_10 : decode cX2_pullOf 10 = .ok (.getfield 21, 3) := by decide +kernel
theorem dX2_pullOf_13 : decode cX2_pullOf 13 = .ok (.if_icmp .ge 75, 3) := by decide +kernel
theorem dX2_pullOf_16 : decode cX2_pullOf 16 = .ok (.iload 4, 2) := by decide +kernel
theorem dX2_pullOf_18 : decode cX2_pullOf 18 = .ok (.aload_n 0, 1) := by decide +kernel
theorem dX2_pullOf_19 : decode cX2_pullOf 19 = .ok (.getfield 21, 3) := by decide +kernel
theorem dX2_pullOf_22 : decode cX2_pullOf 22 = .ok (.iconst 1, 1) := by decide +kernel
theorem dX2_pullOf_23 : decode cX2_pullOf 23 = .ok (.isub, 1) := by decide +kernel
theorem dX2_pullOf_24 : decode cX2_pullOf 24 = .ok (.if_icmp .ne 7, 3) := by decide +kernel
theorem dX2_pullOf_27 : decode cX2_pullOf 27 = .ok (.iload_n 1, 1) := by decide +kernel
theorem dX2_pullOf_28 : decode cX2_pullOf 28 = .ok (.goto 16, 3) := by decide +kernel
theorem dX2_pullOf_31 : decode cX2_pullOf 31 = .ok (.iload_n 1, 1) := by decide +kernel
theorem dX2_pullOf_32 : decode cX2_pullOf 32 = .ok (.iload_n 3, 1) := by decide +kernel
theorem dX2_pullOf_33 : decode cX2_pullOf 33 = .ok (.aload_n 0, 1) := by decide +kernel
theorem dX2_pullOf_34 : decode cX2_pullOf 34 = .ok (.getfield 9, 3) := by decide +kernel
theorem dX2_pullOf_37 : decode cX2_pullOf 37 = .ok (.iload 4, 2) := by decide +kernel
theorem dX2_pullOf_39 : decode cX2_pullOf 39 = .ok (.iaload, 1) := by decide +kernel
theorem dX2_pullOf_40 : decode cX2_pullOf 40 = .ok (.iadd, 1) := by decide +kernel
theorem dX2_pullOf_41 : decode cX2_pullOf 41 = .ok (.invokestatic 32, 3) := by decide +kernel
theorem dX2_pullOf_44 : decode cX2_pullOf 44 = .ok (.istore 5, 2) := by decide +kernel
theorem dX2_pullOf_46 : decode cX2_pullOf 46 = .ok (.iload_n 2, 1) := by decide +kernel
theorem dX2_pullOf_47 : decode cX2_pullOf 47 = .ok (.iconst 0, 1) := by decide +kernel
theorem dX2_pullOf_48 : decode cX2_pullOf 48 = .ok (.iload 5, 2) := by decide +kernel
theorem dX2_pullOf_50 : decode cX2_pullOf 50 = .ok (.iload_n 3, 1) := by decide +kernel
theorem dX2_pullOf_51 : decode cX2_pullOf 51 = .ok (.aload_n 0, 1) := by decide +kernel
theorem dX2_pullOf_52 : decode cX2_pullOf 52 = .ok (.getfield 25, 3) := by decide +kernel
theorem dX2_pullOf_55 : decode cX2_pullOf 55 = .ok (.invokestatic 38, 3) := by decide +kernel
theorem dX2_pullOf_58 : decode cX2_pullOf 58 = .ok (.isub, 1) := by decide +kernel
theorem dX2_pullOf_59 : decode cX2_pullOf 59 = .ok (.invokestatic 38, 3) := by decide +kernel
theorem dX2_pullOf_62 : decode cX2_pullOf 62 = .ok (.aload_n 0, 1) := by decide +kernel
theorem dX2_pullOf_63 : decode cX2_pullOf 63 = .ok (.getfield 15, 3) := by decide +kernel
theorem dX2_pullOf_66 : decode cX2_pullOf 66 = .ok (.iload 4, 2) := by decide +kernel
theorem dX2_pullOf_68 : decode cX2_pullOf 68 = .ok (.iaload, 1) := by decide +kernel
theorem dX2_pullOf_69 : decode cX2_pullOf 69 = .ok (.imul, 1) := by decide +kernel
theorem dX2_pullOf_70 : decode cX2_pullOf 70 = .ok (.iadd, 1) := by decide +kernel
theorem dX2_pullOf_71 : decode cX2_pullOf 71 = .ok (.istore_n 2, 1) := by decide +kernel
theorem dX2_pullOf_72 : decode cX2_pullOf 72 = .ok (.iload_n 3, 1) := by decide +kernel
theorem dX2_pullOf_73 : decode cX2_pullOf 73 = .ok (.aload_n 0, 1) := by decide +kernel
theorem dX2_pullOf_74 : decode cX2_pullOf 74 = .ok (.getfield 9, 3) := by decide +kernel
theorem dX2_pullOf_77 : decode cX2_pullOf 77 = .ok (.iload 4, 2) := by decide +kernel
theorem dX2_pullOf_79 : decode cX2_pullOf 79 = .ok (.iaload, 1) := by decide +kernel
theorem dX2_pullOf_80 : decode cX2_pullOf 80 = .ok (.iadd, 1) := by decide +kernel
theorem dX2_pullOf_81 : decode cX2_pullOf 81 = .ok (.istore_n 3, 1) := by decide +kernel
theorem dX2_pullOf_82 : decode cX2_pullOf 82 = .ok (.iinc 4 1, 3) := by decide +kernel
theorem dX2_pullOf_85 : decode cX2_pullOf 85 = .ok (.goto (-78), 3) := by decide +kernel
theorem dX2_pullOf_88 : decode cX2_pullOf 88 = .ok (.iload_n 2, 1) := by decide +kernel
theorem dX2_pullOf_89 : decode cX2_pullOf 89 = .ok (.ireturn, 1) := by decide +kernel
theorem dX2_bearingOf_0 : decode cX2_bearingOf 0 = .ok (.aload_n 0, 1) := by decide +kernel
theorem dX2_bearingOf_1 : decode cX2_bearingOf 1 = .ok (.iload_n 1, 1) := by decide +kernel
theorem dX2_bearingOf_2 : decode cX2_bearingOf 2 = .ok (.invokevirtual 41, 3) := by decide +kernel
theorem dX2_bearingOf_5 : decode cX2_bearingOf 5 = .ok (.aload_n 0, 1) := by decide +kernel
theorem dX2_bearingOf_6 : decode cX2_bearingOf 6 = .ok (.iload_n 1, 1) := by decide +kernel
theorem dX2_bearingOf_7 : decode cX2_bearingOf 7 = .ok (.invokevirtual 44, 3) := by decide +kernel
theorem dX2_bearingOf_10 : decode cX2_bearingOf 10 = .ok (.iadd, 1) := by decide +kernel
theorem dX2_bearingOf_11 : decode cX2_bearingOf 11 = .ok (.ireturn, 1) := by decide +kernel
theorem dX3_init_0 : decode cX3_init 0 = .ok (.aload_n 0, 1) := by decide +kernel
theorem dX3_init_1 : decode cX3_init 1 = .ok (.invokespecial 3, 3) := by decide +kernel
theorem dX3_init_4 : decode cX3_init 4 = .ok (.aload_n 0, 1) := by decide +kernel
theorem dX3_init_5 : decode cX3_init 5 = .ok (.bipush 12, 2) := by decide +kernel
theorem dX3_init_7 : decode cX3_init 7 = .ok (.newarray .int, 2) := by decide +kernel
theorem dX3_init_9 : decode cX3_init 9 = .ok (.putfield 9, 3) := by decide +kernel
theorem dX3_init_12 : decode cX3_init 12 = .ok (.aload_n 0, 1) := by decide +kernel
theorem dX3_init_13 : decode cX3_init 13 = .ok (.bipush 12, 2) := by decide +kernel
theorem dX3_init_15 : decode cX3_init 15 = .ok (.newarray .int, 2) := by decide +kernel
theorem dX3_init_17 : decode cX3_init 17 = .ok (.putfield 15, 3) := by decide +kernel
theorem dX3_init_20 : decode cX3_init 20 = .ok (.aload_n 0, 1) := by decide +kernel
theorem dX3_init_21 : decode cX3_init 21 = .ok (.bipush 12, 2) := by decide +kernel
theorem dX3_init_23 : decode cX3_init 23 = .ok (.newarray .int, 2) := by decide +kernel
theorem dX3_init_25 : decode cX3_init 25 = .ok (.putfield 18, 3) := by decide +kernel
theorem dX3_init_28 : decode cX3_init 28 = .ok (.return_, 1) := by decide +kernel
theorem dX3_measure_0 : decode cX3_measure 0 = .ok (.iconst 0, 1) := by decide +kernel
theorem dX3_measure_1 : decode cX3_measure 1 = .ok (.istore_n 3, 1) := by decide +kernel
theorem dX3_measure_2 : decode cX3_measure 2 = .ok (.iload_n 3, 1) := by decide +kernel
theorem dX3_measure_3 : decode cX3_measure 3 = .ok (.aload_n 2, 1) := by decide +kernel
theorem dX3_measure_4 : decode cX3_measure 4 = .ok (.getfield 21, 3) := by decide +kernel
theorem dX3_measure_7 : decode cX3_measure 7 = .ok (.if_icmp .ge 41, 3) := by decide +kernel
theorem dX3_measure_10 : decode cX3_measure 10 = .ok (.aload_n 0, 1) := by decide +kernel
theorem dX3_measure_11 : decode cX3_measure 11 = .ok (.getfield 9, 3) := by decide +kernel
theorem dX3_measure_14 : decode cX3_measure 14 = .ok (.iload_n 3, 1) := by decide +kernel
theorem dX3_measure_15 : decode cX3_measure 15 = .ok (.aload_n 1, 1) := by decide +kernel
theorem dX3_measure_16 : decode cX3_measure 16 = .ok (.aload_n 2, 1) := by decide +kernel
theorem dX3_measure_17 : decode cX3_measure 17 = .ok (.getfield 27, 3) := by decide +kernel
theorem dX3_measure_20 : decode cX3_measure 20 = .ok (.iload_n 3, 1) := by decide +kernel
theorem dX3_measure_21 : decode cX3_measure 21 = .ok (.iaload, 1) := by decide +kernel
theorem dX3_measure_22 : decode cX3_measure 22 = .ok (.invokevirtual 30, 3) := by decide +kernel
theorem dX3_measure_25 : decode cX3_measure 25 = .ok (.iastore, 1) := by decide +kernel
theorem dX3_measure_26 : decode cX3_measure 26 = .ok (.aload_n 0, 1) := by decide +kernel
theorem dX3_measure_27 : decode cX3_measure 27 = .ok (.getfield 15, 3) := by decide +kernel
theorem dX3_measure_30 : decode cX3_measure 30 = .ok (.iload_n 3, 1) := by decide +kernel
theorem dX3_measure_31 : decode cX3_measure 31 = .ok (.aload_n 1, 1) := by decide +kernel
theorem dX3_measure_32 : decode cX3_measure 32 = .ok (.aload_n 2, 1) := by decide +kernel
theorem dX3_measure_33 : decode cX3_measure 33 = .ok (.getfield 27, 3) := by decide +kernel
theorem dX3_measure_36 : decode cX3_measure 36 = .ok (.iload_n 3, 1) := by decide +kernel
theorem dX3_measure_37 : decode cX3_measure 37 = .ok (.iaload, 1) := by decide +kernel
theorem dX3_measure_38 : decode cX3_measure 38 = .ok (.invokevirtual 36, 3) := by decide +kernel
theorem dX3_measure_41 : decode cX3_measure 41 = .ok (.iastore, 1) := by decide +kernel
theorem dX3_measure_42 : decode cX3_measure 42 = .ok (.iinc 3 1, 3) := by decide +kernel
theorem dX3_measure_45 : decode cX3_measure 45 = .ok (.goto (-43), 3) := by decide +kernel
theorem dX3_measure_48 : decode cX3_measure 48 = .ok (.return_, 1) := by decide +kernel
theorem dX3_measureSpacing_0 : decode cX3_measureSpacing 0 = .ok (.iconst 0, 1) := by decide +kernel
theorem dX3_measureSpacing_1 : decode cX3_measureSpacing 1 = .ok (.istore_n 3, 1) := by decide +kernel
theorem dX3_measureSpacing_2 : decode cX3_measureSpacing 2 = .ok (.iload_n 3, 1) := by decide +kernel
theorem dX3_measureSpacing_3 : decode cX3_measureSpacing 3 = .ok (.aload_n 1, 1) := by decide +kernel
theorem dX3_measureSpacing_4 : decode cX3_measureSpacing 4 = .ok (.getfield 21, 3) := by decide +kernel
theorem dX3_measureSpacing_7 : decode cX3_measureSpacing 7 = .ok (.if_icmp .ge 102, 3) := by decide +kernel
theorem dX3_measureSpacing_10 : decode cX3_measureSpacing 10 = .ok (.aload_n 0, 1) := by decide +kernel
theorem dX3_measureSpacing_11 : decode cX3_measureSpacing 11 = .ok (.getfield 18, 3) := by decide +kernel
theorem dX3_measureSpacing_14 : decode cX3_measureSpacing 14 = .ok (.iload_n 3, 1) := by decide +kernel
theorem dX3_measureSpacing_15 : decode cX3_measureSpacing 15 = .ok (.iconst 0, 1) := by decide +kernel
theorem dX3_measureSpacing_16 : decode cX3_measureSpacing 16 = .ok (.iastore, 1) := by decide +kernel
theorem dX3_measureSpacing_17 : decode cX3_measureSpacing 17 = .ok (.iconst 0, 1) := by decide +kernel
theorem dX3_measureSpacing_18 : decode cX3_measureSpacing 18 = .ok (.istore 4, 2) := by decide +kernel
theorem dX3_measureSpacing_20 : decode cX3_measureSpacing 20 = .ok (.iload 4, 2) := by decide +kernel
theorem dX3_measureSpacing_22 : decode cX3_measureSpacing 22 = .ok (.aload_n 1, 1) := by decide +kernel
theorem dX3_measureSpacing_23 : decode cX3_measureSpacing 23 = .ok (.getfield 21, 3) := by decide +kernel
theorem dX3_measureSpacing_26 : decode cX3_measureSpacing 26 = .ok (.if_icmp .ge 77, 3) := by decide +kernel
theorem dX3_measureSpacing_29 : decode cX3_measureSpacing 29 = .ok (.aload_n 1, 1) := by decide +kernel
theorem dX3_measureSpacing_30 : decode cX3_measureSpacing 30 = .ok (.getfield 39, 3) := by decide +kernel
theorem dX3_measureSpacing_33 : decode cX3_measureSpacing 33 = .ok (.iload_n 3, 1) := by decide +kernel
theorem dX3_measureSpacing_34 : decode cX3_measureSpacing 34 = .ok (.iaload, 1) := by decide +kernel
theorem dX3_measureSpacing_35 : decode cX3_measureSpacing 35 = .ok (.aload_n 1, 1) := by decide +kernel
theorem dX3_measureSpacing_36 : decode cX3_measureSpacing 36 = .ok (.getfield 39, 3) := by decide +kernel
theorem dX3_measureSpacing_39 : decode cX3_measureSpacing 39 = .ok (.iload 4, 2) := by decide +kernel
theorem dX3_measureSpacing_41 : decode cX3_measureSpacing 41 = .ok (.iaload, 1) := by decide +kernel
theorem dX3_measureSpacing_42 : decode cX3_measureSpacing 42 = .ok (.isub, 1) := by decide +kernel
theorem dX3_measureSpacing_43 : decode cX3_measureSpacing 43 = .ok (.istore 5, 2) := by decide +kernel
theorem dX3_measureSpacing_45 : decode cX3_measureSpacing 45 = .ok (.aload_n 1, 1) := by decide +kernel
theorem dX3_measureSpacing_46 : decode cX3_measureSpacing 46 = .ok (.getfield 42, 3) := by decide +kernel
theorem dX3_measureSpacing_49 : decode cX3_measureSpacing 49 = .ok (.iload_n 3, 1) := by decide +kernel
theorem dX3_measureSpacing_50 : decode cX3_measureSpacing 50 = .ok (.iaload, 1) := by decide +kernel
theorem dX3_measureSpacing_51 : decode cX3_measureSpacing 51 = .ok (.aload_n 1, 1) := by decide +kernel
theorem dX3_measureSpacing_52 : decode cX3_measureSpacing 52 = .ok (.getfield 42, 3) := by decide +kernel
theorem dX3_measureSpacing_55 : decode cX3_measureSpacing 55 = .ok (.iload 4, 2) := by decide +kernel
theorem dX3_measureSpacing_57 : decode cX3_measureSpacing 57 = .ok (.iaload, 1) := by decide +kernel
theorem dX3_measureSpacing_58 : decode cX3_measureSpacing 58 = .ok (.isub, 1) := by decide +kernel
theorem dX3_measureSpacing_59 : decode cX3_measureSpacing 59 = .ok (.istore 6, 2) := by decide +kernel
theorem dX3_measureSpacing_61 : decode cX3_measureSpacing 61 = .ok (.iload_n 3, 1) := by decide +kernel
theorem dX3_measureSpacing_62 : decode cX3_measureSpacing 62 = .ok (.iload 4, 2) := by decide +kernel
theorem dX3_measureSpacing_64 : decode cX3_measureSpacing 64 = .ok (.if_icmp .eq 33, 3) := by decide +kernel
theorem dX3_measureSpacing_67 : decode cX3_measureSpacing 67 = .ok (.iload 5, 2) := by decide +kernel
theorem dX3_measureSpacing_69 : decode cX3_measureSpacing 69 = .ok (.iload 5, 2) := by decide +kernel
theorem dX3_measureSpacing_71 : decode cX3_measureSpacing 71 = .ok (.imul, 1) := by decide +kernel
theorem dX3_measureSpacing_72 : decode cX3_measureSpacing 72 = .ok (.iload 6, 2) := by decide +kernel
theorem dX3_measureSpacing_74 : decode cX3_measureSpacing 74 = .ok (.iload 6, 2) := by decide +kernel
theorem dX3_measureSpacing_76 : decode cX3_measureSpacing 76 = .ok (.imul, 1) := by decide +kernel
theorem dX3_measureSpacing_77 : decode cX3_measureSpacing 77 = .ok (.iadd, 1) := by decide +kernel
theorem dX3_measureSpacing_78 : decode cX3_measureSpacing 78 = .ok (.iload_n 2, 1) := by decide +kernel
theorem dX3_measureSpacing_79 : decode cX3_measureSpacing 79 = .ok (.iload_n 2, 1) := by decide +kernel
theorem dX3_measureSpacing_80 : decode cX3_measureSpacing 80 = .ok (.imul, 1) := by decide +kernel
theorem dX3_measureSpacing_81 : decode cX3_measureSpacing 81 = .ok (.if_icmp .ge 16, 3) := by decide +kernel
theorem dX3_measureSpacing_84 : decode cX3_measureSpacing 84 = .ok (.aload_n 0, 1) := by decide +kernel
theorem dX3_measureSpacing_85 : decode cX3_measureSpacing 85 = .ok (.getfield 18, 3) := by decide +kernel
theorem dX3_measureSpacing_88 : decode cX3_measureSpacing 88 = .ok (.iload_n 3, 1) := by decide +kernel
theorem dX3_measureSpacing_89 : decode cX3_measureSpacing 89 = .ok (.dup2, 1) := by decide +kernel
theorem dX3_measureSpacing_90 : decode cX3_measureSpacing 90 = .ok (.iaload, 1) := by decide +kernel
theorem dX3_measureSpacing_91 : decode cX3_measureSpacing 91 = .ok (.iconst 1, 1) := by decide +kernel
theorem dX3_measureSpacing_92 : decode cX3_measureSpacing 92 = .ok (.iload 4, 2) := by decide +kernel
theorem dX3_measureSpacing_94 : decode cX3_measureSpacing 94 = .ok (.ishl, 1) := by decide +kernel
theorem dX3_measureSpacing_95 : decode cX3_measureSpacing 95 = .ok (.ior, 1) := by decide +kernel
theorem dX3_measureSpacing_96 : decode cX3_measureSpacing 96 = .ok (.iastore, 1) := by decide +kernel
theorem dX3_measureSpacing_97 : decode cX3_measureSpacing 97 = .ok (.iinc 4 1, 3) := by decide +kernel
theorem dX3_measureSpacing_100 : decode cX3_measureSpacing 100 = .ok (.goto (-80), 3) := by decide +kernel
theorem dX3_measureSpacing_103 : decode cX3_measureSpacing 103 = .ok (.iinc 3 1, 3) := by decide +kernel
theorem dX3_measureSpacing_106 : decode cX3_measureSpacing 106 = .ok (.goto (-104), 3) := by decide +kernel
theorem dX3_measureSpacing_109 : decode cX3_measureSpacing 109 = .ok (.return_, 1) := by decide +kernel
theorem dX3_against_0 : decode cX3_against 0 = .ok (.lload_n 2, 1) := by decide +kernel
theorem dX3_against_1 : decode cX3_against 1 = .ok (.lconst 0, 1) := by decide +kernel
theorem dX3_against_2 : decode cX3_against 2 = .ok (.lcmp, 1) := by decide +kernel
theorem dX3_against_3 : decode cX3_against 3 = .ok (.ifCond .le 13, 3) := by decide +kernel
theorem dX3_against_6 : decode cX3_against 6 = .ok (.aload_n 0, 1) := by decide +kernel
theorem dX3_against_7 : decode cX3_against 7 = .ok (.getfield 15, 3) := by decide +kernel
theorem dX3_against_10 : decode cX3_against 10 = .ok (.iload_n 1, 1) := by decide +kernel
theorem dX3_against_11 : decode cX3_against 11 = .ok (.iaload, 1) := by decide +kernel
theorem dX3_against_12 : decode cX3_against 12 = .ok (.i2l, 1) := by decide +kernel
theorem dX3_against_13 : decode cX3_against 13 = .ok (.goto 10, 3) := by decide +kernel
theorem dX3_against_16 : decode cX3_against 16 = .ok (.aload_n 0, 1) := by decide +kernel
theorem dX3_against_17 : decode cX3_against 17 = .ok (.getfield 9, 3) := by decide +kernel
theorem dX3_against_20 : decode cX3_against 20 = .ok (.iload_n 1, 1) := by decide +kernel
theorem dX3_against_21 : decode cX3_against 21 = .ok (.iaload, 1) := by decide +kernel
theorem dX3_against_22 : decode cX3_against 22 = .ok (.i2l, 1) := by decide +kernel
theorem dX3_against_23 : decode cX3_against 23 = .ok (.lreturn, 1) := by decide +kernel
theorem dX3_spaced_0 : decode cX3_spaced 0 = .ok (.iconst 0, 1) := by decide +kernel
theorem dX3_spaced_1 : decode cX3_spaced 1 = .ok (.istore_n 2, 1) := by decide +kernel
theorem dX3_spaced_2 : decode cX3_spaced 2 = .ok (.iload_n 2, 1) := by decide +kernel
theorem dX3_spaced_3 : decode cX3_spaced 3 = .ok (.bipush 12, 2) := by decide +kernel
theorem dX3_spaced_5 : decode cX3_spaced 5 = .ok (.if_icmp .ge 30, 3) := by decide +kernel
theorem dX3_spaced_8 : decode cX3_spaced 8 = .ok (.iload_n 1, 1) := by decide +kernel
theorem dX3_spaced_9 : decode cX3_spaced 9 = .ok (.iload_n 2, 1) := by decide +kernel
theorem dX3_spaced_10 : decode cX3_spaced 10 = .ok (.ishr, 1) := by decide +kernel
theorem dX3_spaced_11 : decode cX3_spaced 11 = .ok (.iconst 1, 1) := by decide +kernel
theorem dX3_spaced_12 : decode cX3_spaced 12 = .ok (.iand, 1) := by decide +kernel
theorem dX3_spaced_13 : decode cX3_spaced 13 = .ok (.ifCond .eq 16, 3) := by decide +kernel
theorem dX3_spaced_16 : decode cX3_spaced 16 = .ok (.iload_n 1, 1) := by decide +kernel
theorem dX3_spaced_17 : decode cX3_spaced 17 = .ok (.aload_n 0, 1) := by decide +kernel
theorem dX3_spaced_18 : decode cX3_spaced 18 = .ok (.getfield 18, 3) := by decide +kernel
theorem dX3_spaced_21 : decode cX3_spaced 21 = .ok (.iload_n 2, 1) := by decide +kernel
theorem dX3_spaced_22 : decode cX3_spaced 22 = .ok (.iaload, 1) := by decide +kernel
theorem dX3_spaced_23 : decode cX3_spaced 23 = .ok (.iand, 1) := by decide +kernel
theorem dX3_spaced_24 : decode cX3_spaced 24 = .ok (.ifCond .eq 5, 3) := by decide +kernel
theorem dX3_spaced_27 : decode cX3_spaced 27 = .ok (.iconst 0, 1) := by decide +kernel
theorem dX3_spaced_28 : decode cX3_spaced 28 = .ok (.ireturn, 1) := by decide +kernel
theorem dX3_spaced_29 : decode cX3_spaced 29 = .ok (.iinc 2 1, 3) := by decide +kernel
theorem dX3_spaced_32 : decode cX3_spaced 32 = .ok (.goto (-30), 3) := by decide +kernel
theorem dX3_spaced_35 : decode cX3_spaced 35 = .ok (.iconst 1, 1) := by decide +kernel
theorem dX3_spaced_36 : decode cX3_spaced 36 = .ok (.ireturn, 1) := by decide +kernel
theorem dX4_init_0 : decode cX4_init 0 = .ok (.aload_n 0, 1) := by decide +kernel
theorem dX4_init_1 : decode cX4_init 1 = .ok (.invokespecial 3, 3) := by decide +kernel
theorem dX4_init_4 : decode cX4_init 4 = .ok (.aload_n 0, 1) := by decide +kernel
theorem dX4_init_5 : decode cX4_init 5 = .ok (.iconst 3, 1) := by decide +kernel
theorem dX4_init_6 : decode cX4_init 6 = .ok (.newarray .int, 2) := by decide +kernel
theorem dX4_init_8 : decode cX4_init 8 = .ok (.putfield 9, 3) := by decide +kernel
theorem dX4_init_11 : decode cX4_init 11 = .ok (.aload_n 0, 1) := by decide +kernel
theorem dX4_init_12 : decode cX4_init 12 = .ok (.iconst 3, 1) := by decide +kernel
theorem dX4_init_13 : decode cX4_init 13 = .ok (.newarray .long, 2) := by decide +kernel
theorem dX4_init_15 : decode cX4_init 15 = .ok (.putfield 15, 3) := by decide +kernel
theorem dX4_init_18 : decode cX4_init 18 = .ok (.aload_n 0, 1) := by decide +kernel
theorem dX4_init_19 : decode cX4_init 19 = .ok (.iconst 3, 1) := by decide +kernel
theorem dX4_init_20 : decode cX4_init 20 = .ok (.newarray .long, 2) := by decide +kernel
theorem dX4_init_22 : decode cX4_init 22 = .ok (.putfield 19, 3) := by decide +kernel
theorem dX4_init_25 : decode cX4_init 25 = .ok (.aload_n 0, 1) := by decide +kernel
theorem dX4_init_26 : decode cX4_init 26 = .ok (.iconst 3, 1) := by decide +kernel
theorem dX4_init_27 : decode cX4_init 27 = .ok (.newarray .long, 2) := by decide +kernel
theorem dX4_init_29 : decode cX4_init 29 = .ok (.putfield 22, 3) := by decide +kernel
theorem dX4_init_32 : decode cX4_init 32 = .ok (.return_, 1) := by decide +kernel
theorem dX4_add_0 : decode cX4_add 0 = .ok (.aload_n 0, 1) := by decide +kernel
theorem dX4_add_1 : decode cX4_add 1 = .ok (.getfield 15, 3) := by decide +kernel
theorem dX4_add_4 : decode cX4_add 4 = .ok (.iload_n 1, 1) := by decide +kernel
theorem dX4_add_5 : decode cX4_add 5 = .ok (.dup2, 1) := by decide +kernel
theorem dX4_add_6 : decode cX4_add 6 = .ok (.laload, 1) := by decide +kernel
theorem dX4_add_7 : decode cX4_add 7 = .ok (.iload_n 2, 1) := by decide +kernel
theorem dX4_add_8 : decode cX4_add 8 = .ok (.i2l, 1) := by decide +kernel
theorem dX4_add_9 : decode cX4_add 9 = .ok (.ladd, 1) := by decide +kernel
theorem dX4_add_10 : decode cX4_add 10 = .ok (.lastore, 1) := by decide +kernel
theorem dX4_add_11 : decode cX4_add 11 = .ok (.aload_n 0, 1) := by decide +kernel
theorem dX4_add_12 : decode cX4_add 12 = .ok (.getfield 19, 3) := by decide +kernel
theorem dX4_add_15 : decode cX4_add 15 = .ok (.iload_n 1, 1) := by decide +kernel
theorem dX4_add_16 : decode cX4_add 16 = .ok (.dup2, 1) := by decide +kernel
theorem dX4_add_17 : decode cX4_add 17 = .ok (.laload, 1) := by decide +kernel
theorem dX4_add_18 : decode cX4_add 18 = .ok (.iload_n 2, 1) := by decide +kernel
theorem dX4_add_19 : decode cX4_add 19 = .ok (.iload_n 3, 1) := by decide +kernel
theorem dX4_add_20 : decode cX4_add 20 = .ok (.imul, 1) := by decide +kernel
theorem dX4_add_21 : decode cX4_add 21 = .ok (.i2l, 1) := by decide +kernel
theorem dX4_add_22 : decode cX4_add 22 = .ok (.ladd, 1) := by decide +kernel
theorem dX4_add_23 : decode cX4_add 23 = .ok (.lastore, 1) := by decide +kernel
theorem dX4_add_24 : decode cX4_add 24 = .ok (.aload_n 0, 1) := by decide +kernel
theorem dX4_add_25 : decode cX4_add 25 = .ok (.getfield 22, 3) := by decide +kernel
theorem dX4_add_28 : decode cX4_add 28 = .ok (.iload_n 1, 1) := by decide +kernel
theorem dX4_add_29 : decode cX4_add 29 = .ok (.dup2, 1) := by decide +kernel
theorem dX4_add_30 : decode cX4_add 30 = .ok (.laload, 1) := by decide +kernel
theorem dX4_add_31 : decode cX4_add 31 = .ok (.iload_n 2, 1) := by decide +kernel
theorem dX4_add_32 : decode cX4_add 32 = .ok (.iload 4, 2) := by decide +kernel
theorem dX4_add_34 : decode cX4_add 34 = .ok (.imul, 1) := by decide +kernel
theorem dX4_add_35 : decode cX4_add 35 = .ok (.i2l, 1) := by decide +kernel
theorem dX4_add_36 : decode cX4_add 36 = .ok (.ladd, 1) := by decide +kernel
theorem dX4_add_37 : decode cX4_add 37 = .ok (.lastore, 1) := by decide +kernel
theorem dX4_add_38 : decode cX4_add 38 = .ok (.aload_n 0, 1) := by decide +kernel
theorem dX4_add_39 : decode cX4_add 39 = .ok (.getfield 9, 3) := by decide +kernel
theorem dX4_add_42 : decode cX4_add 42 = .ok (.iload_n 1, 1) := by decide +kernel
theorem dX4_add_43 : decode cX4_add 43 = .ok (.dup2, 1) := by decide +kernel
theorem dX4_add_44 : decode cX4_add 44 = .ok (.iaload, 1) := by decide +kernel
theorem dX4_add_45 : decode cX4_add 45 = .ok (.iconst 1, 1) := by decide +kernel
theorem dX4_add_46 : decode cX4_add 46 = .ok (.iadd, 1) := by decide +kernel
theorem dX4_add_47 : decode cX4_add 47 = .ok (.iastore, 1) := by decide +kernel
theorem dX4_add_48 : decode cX4_add 48 = .ok (.aload_n 0, 1) := by decide +kernel
theorem dX4_add_49 : decode cX4_add 49 = .ok (.getfield 9, 3) := by decide +kernel
theorem dX4_add_52 : decode cX4_add 52 = .ok (.iload_n 1, 1) := by decide +kernel
theorem dX4_add_53 : decode cX4_add 53 = .ok (.iaload, 1) := by decide +kernel
theorem dX4_add_54 : decode cX4_add 54 = .ok (.ireturn, 1) := by decide +kernel
theorem dX4_clear_0 : decode cX4_clear 0 = .ok (.aload_n 0, 1) := by decide +kernel
theorem dX4_clear_1 : decode cX4_clear 1 = .ok (.getfield 9, 3) := by decide +kernel
theorem dX4_clear_4 : decode cX4_clear 4 = .ok (.iload_n 1, 1) := by decide +kernel
theorem dX4_clear_5 : decode cX4_clear 5 = .ok (.iaload, 1) := by decide +kernel
theorem dX4_clear_6 : decode cX4_clear 6 = .ok (.istore_n 2, 1) := by decide +kernel
theorem dX4_clear_7 : decode cX4_clear 7 = .ok (.aload_n 0, 1) := by decide +kernel
theorem dX4_clear_8 : decode cX4_clear 8 = .ok (.getfield 9, 3) := by decide +kernel
theorem dX4_clear_11 : decode cX4_clear 11 = .ok (.iload_n 1, 1) := by decide +kernel
theorem dX4_clear_12 : decode cX4_clear 12 = .ok (.iconst 0, 1) := by decide +kernel
theorem dX4_clear_13 : decode cX4_clear 13 = .ok (.iastore, 1) := by decide +kernel
theorem dX4_clear_14 : decode cX4_clear 14 = .ok (.aload_n 0, 1) := by decide +kernel
theorem dX4_clear_15 : decode cX4_clear 15 = .ok (.getfield 15, 3) := by decide +kernel
theorem dX4_clear_18 : decode cX4_clear 18 = .ok (.iload_n 1, 1) := by decide +kernel
theorem dX4_clear_19 : decode cX4_clear 19 = .ok (.lconst 0, 1) := by decide +kernel
theorem dX4_clear_20 : decode cX4_clear 20 = .ok (.lastore, 1) := by decide +kernel
theorem dX4_clear_21 : decode cX4_clear 21 = .ok (.aload_n 0, 1) := by decide +kernel
theorem dX4_clear_22 : decode cX4_clear 22 = .ok (.getfield 19, 3) := by decide +kernel
theorem dX4_clear_25 : decode cX4_clear 25 = .ok (.iload_n 1, 1) := by decide +kernel
theorem dX4_clear_26 : decode cX4_clear 26 = .ok (.lconst 0, 1) := by decide +kernel
theorem dX4_clear_27 : decode cX4_clear 27 = .ok (.lastore, 1) := by decide +kernel
theorem dX4_clear_28 : decode cX4_clear 28 = .ok (.aload_n 0, 1) := by decide +kernel
theorem dX4_clear_29 : decode cX4_clear 29 = .ok (.getfield 22, 3) := by decide +kernel
theorem dX4_clear_32 : decode cX4_clear 32 = .ok (.iload_n 1, 1) := by decide +kernel
theorem dX4_clear_33 : decode cX4_clear 33 = .ok (.lconst 0, 1) := by decide +kernel
theorem dX4_clear_34 : decode cX4_clear 34 = .ok (.lastore, 1) := by decide +kernel
theorem dX4_clear_35 : decode cX4_clear 35 = .ok (.iload_n 2, 1) := by decide +kernel
theorem dX4_clear_36 : decode cX4_clear 36 = .ok (.ireturn, 1) := by decide +kernel
theorem dX4_all_0 : decode cX4_all 0 = .ok (.iconst 0, 1) := by decide +kernel
theorem dX4_all_1 : decode cX4_all 1 = .ok (.istore_n 1, 1) := by decide +kernel
theorem dX4_all_2 : decode cX4_all 2 = .ok (.iconst 0, 1) := by decide +kernel
theorem dX4_all_3 : decode cX4_all 3 = .ok (.istore_n 2, 1) := by decide +kernel
theorem dX4_all_4 : decode cX4_all 4 = .ok (.iload_n 2, 1) := by decide +kernel
theorem dX4_all_5 : decode cX4_all 5 = .ok (.iconst 3, 1) := by decide +kernel
theorem dX4_all_6 : decode cX4_all 6 = .ok (.if_icmp .ge 18, 3) := by decide +kernel
theorem dX4_all_9 : decode cX4_all 9 = .ok (.iload_n 1, 1) := by decide +kernel
theorem dX4_all_10 : decode cX4_all 10 = .ok (.aload_n 0, 1) := by decide +kernel
theorem dX4_all_11 : decode cX4_all 11 = .ok (.getfield 9, 3) := by decide +kernel
theorem dX4_all_14 : decode cX4_all 14 = .ok (.iload_n 2, 1) := by decide +kernel
theorem dX4_all_15 : decode cX4_all 15 = .ok (.iaload, 1) := by decide +kernel
theorem dX4_all_16 : decode cX4_all 16 = .ok (.iadd, 1) := by decide +kernel
theorem dX4_all_17 : decode cX4_all 17 = .ok (.istore_n 1, 1) := by decide +kernel
theorem dX4_all_18 : decode cX4_all 18 = .ok (.iinc 2 1, 3) := by decide +kernel
theorem dX4_all_21 : decode cX4_all 21 = .ok (.goto (-17), 3) := by decide +kernel
theorem dX4_all_24 : decode cX4_all 24 = .ok (.iload_n 1, 1) := by decide +kernel
theorem dX4_all_25 : decode cX4_all 25 = .ok (.ireturn, 1) := by decide +kernel
theorem dX5_init_0 : decode cX5_init 0 = .ok (.aload_n 0, 1) := by decide +kernel
theorem dX5_init_1 : decode cX5_init 1 = .ok (.invokespecial 3, 3) := by decide +kernel
theorem dX5_init_4 : decode cX5_init 4 = .ok (.aload_n 0, 1) := by decide +kernel
theorem dX5_init_5 : decode cX5_init 5 = .ok (.bipush 12, 2) := by decide +kernel
theorem dX5_init_7 : decode cX5_init 7 = .ok (.newarray .int, 2) := by decide +kernel
theorem dX5_init_9 : decode cX5_init 9 = .ok (.putfield 9, 3) := by decide +kernel
theorem dX5_init_12 : decode cX5_init 12 = .ok (.aload_n 0, 1) := by decide +kernel
theorem dX5_init_13 : decode cX5_init 13 = .ok (.bipush 12, 2) := by decide +kernel
theorem dX5_init_15 : decode cX5_init 15 = .ok (.newarray .int, 2) := by decide +kernel
theorem dX5_init_17 : decode cX5_init 17 = .ok (.putfield 15, 3) := by decide +kernel
theorem dX5_init_20 : decode cX5_init 20 = .ok (.aload_n 0, 1) := by decide +kernel
theorem dX5_init_21 : decode cX5_init 21 = .ok (.bipush 12, 2) := by decide +kernel
theorem dX5_init_23 : decode cX5_init 23 = .ok (.newarray .int, 2) := by decide +kernel
theorem dX5_init_25 : decode cX5_init 25 = .ok (.putfield 18, 3) := by decide +kernel
theorem dX5_init_28 : decode cX5_init 28 = .ok (.aload_n 0, 1) := by decide +kernel
theorem dX5_init_29 : decode cX5_init 29 = .ok (.bipush 12, 2) := by decide +kernel
theorem dX5_init_31 : decode cX5_init 31 = .ok (.newarray .int, 2) := by decide +kernel
theorem dX5_init_33 : decode cX5_init 33 = .ok (.putfield 21, 3) := by decide +kernel
theorem dX5_init_36 : decode cX5_init 36 = .ok (.aload_n 0, 1) := by decide +kernel
theorem dX5_init_37 : decode cX5_init 37 = .ok (.iconst 0, 1) := by decide +kernel
theorem dX5_init_38 : decode cX5_init 38 = .ok (.putfield 24, 3) := by decide +kernel
theorem dX5_init_41 : decode cX5_init 41 = .ok (.aload_n 0, 1) := by decide +kernel
theorem dX5_init_42 : decode cX5_init 42 = .ok (.iconst 0, 1) := by decide +kernel
theorem dX5_init_43 : decode cX5_init 43 = .ok (.putfield 28, 3) := by decide +kernel
theorem dX5_init_46 : decode cX5_init 46 = .ok (.return_, 1) := by decide +kernel
theorem dX5_has_0 : decode cX5_has 0 = .ok (.iload_n 1, 1) := by decide +kernel
theorem dX5_has_1 : decode cX5_has 1 = .ok (.ifCond .lt 15, 3) := by decide +kernel
theorem dX5_has_4 : decode cX5_has 4 = .ok (.iload_n 1, 1) := by decide +kernel
theorem dX5_has_5 : decode cX5_has 5 = .ok (.aload_n 0, 1) := by decide +kernel
theorem dX5_has_6 : decode cX5_has 6 = .ok (.getfield 28, 3) := by decide +kernel
theorem dX5_has_9 : decode cX5_has 9 = .ok (.if_icmp .ge 7, 3) := by decide +kernel
theorem dX5_has_12 : decode cX5_has 12 = .ok (.iconst 1, 1) := by decide +kernel
theorem dX5_has_13 : decode cX5_has 13 = .ok (.goto 4, 3) := by decide +kernel
theorem dX5_has_16 : decode cX5_has 16 = .ok (.iconst 0, 1) := by decide +kernel
theorem dX5_has_17 : decode cX5_has 17 = .ok (.ireturn, 1) := by decide +kernel
theorem dX5_isWhole_0 : decode cX5_isWhole 0 = .ok (.aload_n 0, 1) := by decide +kernel
theorem dX5_isWhole_1 : decode cX5_isWhole 1 = .ok (.getfield 24, 3) := by decide +kernel
theorem dX5_isWhole_4 : decode cX5_isWhole 4 = .ok (.iload_n 1, 1) := by decide +kernel
theorem dX5_isWhole_5 : decode cX5_isWhole 5 = .ok (.ishr, 1) := by decide +kernel
theorem dX5_isWhole_6 : decode cX5_isWhole 6 = .ok (.iconst 1, 1) := by decide +kernel
theorem dX5_isWhole_7 : decode cX5_isWhole 7 = .ok (.iand, 1) := by decide +kernel
theorem dX5_isWhole_8 : decode cX5_isWhole 8 = .ok (.ifCond .eq 7, 3) := by decide +kernel
theorem dX5_isWhole_11 : decode cX5_isWhole 11 = .ok (.iconst 1, 1) := by decide +kernel
theorem dX5_isWhole_12 : decode cX5_isWhole 12 = .ok (.goto 4, 3) := by decide +kernel
theorem dX5_isWhole_15 : decode cX5_isWhole 15 = .ok (.iconst 0, 1) := by decide +kernel
theorem dX5_isWhole_16 : decode cX5_isWhole 16 = .ok (.ireturn, 1) := by decide +kernel
theorem dX5_add_0 : decode cX5_add 0 = .ok (.aload_n 0, 1) := by decide +kernel
theorem dX5_add_1 : decode cX5_add 1 = .ok (.getfield 28, 3) := by decide +kernel
theorem dX5_add_4 : decode cX5_add 4 = .ok (.istore 5, 2) := by decide +kernel
theorem dX5_add_6 : decode cX5_add 6 = .ok (.aload_n 0, 1) := by decide +kernel
theorem dX5_add_7 : decode cX5_add 7 = .ok (.iload 5, 2) := by decide +kernel
theorem dX5_add_9 : decode cX5_add 9 = .ok (.iload_n 1, 1) := by decide +kernel
theorem dX5_add_10 : decode cX5_add 10 = .ok (.iload_n 2, 1) := by decide +kernel
theorem dX5_add_11 : decode cX5_add 11 = .ok (.invokevirtual 31, 3) := by decide +kernel
theorem dX5_add_14 : decode cX5_add 14 = .ok (.aload_n 0, 1) := by decide +kernel
theorem dX5_add_15 : decode cX5_add 15 = .ok (.getfield 18, 3) := by decide +kernel
theorem dX5_add_18 : decode cX5_add 18 = .ok (.iload 5, 2) := by decide +kernel
theorem dX5_add_20 : decode cX5_add 20 = .ok (.iload_n 3, 1) := by decide +kernel
theorem dX5_add_21 : decode cX5_add 21 = .ok (.iastore, 1) := by decide +kernel
theorem dX5_add_22 : decode cX5_add 22 = .ok (.aload_n 0, 1) := by decide +kernel
theorem dX5_add_23 : decode cX5_add 23 = .ok (.getfield 21, 3) := by decide +kernel
theorem dX5_add_26 : decode cX5_add 26 = .ok (.iload 5, 2) := by decide +kernel
theorem dX5_add_28 : decode cX5_add 28 = .ok (.iload 4, 2) := by decide +kernel
theorem dX5_add_30 : decode cX5_add 30 = .ok (.iastore, 1) := by decide +kernel
theorem dX5_add_31 : decode cX5_add 31 = .ok (.aload_n 0, 1) := by decide +kernel
theorem dX5_add_32 : decode cX5_add 32 = .ok (.iload 5, 2) := by decide +kernel
theorem dX5_add_34 : decode cX5_add 34 = .ok (.iconst 1, 1) := by decide +kernel
theorem dX5_add_35 : decode cX5_add 35 = .ok (.invokevirtual 35, 3) := by decide +kernel
theorem dX5_add_38 : decode cX5_add 38 = .ok (.aload_n 0, 1) := by decide +kernel
theorem dX5_add_39 : decode cX5_add 39 = .ok (.dup, 1) := by decide +kernel
theorem dX5_add_40 : decode cX5_add 40 = .ok (.getfield 28, 3) := by decide +kernel
theorem dX5_add_43 : decode cX5_add 43 = .ok (.iconst 1, 1) := by decide +kernel
theorem dX5_add_44 : decode cX5_add 44 = .ok (.iadd, 1) := by decide +kernel
theorem dX5_add_45 : decode cX5_add 45 = .ok (.putfield 28, 3) := by decide +kernel
theorem dX5_add_48 : decode cX5_add 48 = .ok (.iload 5, 2) := by decide +kernel
theorem dX5_add_50 : decode cX5_add 50 = .ok (.ireturn, 1) := by decide +kernel
theorem dX5_place_0 : decode cX5_place 0 = .ok (.aload_n 0, 1) := by decide +kernel
theorem dX5_place_1 : decode cX5_place 1 = .ok (.getfield 9, 3) := by decide +kernel
theorem dX5_place_4 : decode cX5_place 4 = .ok (.iload_n 1, 1) := by decide +kernel
theorem dX5_place_5 : decode cX5_place 5 = .ok (.iload_n 2, 1) := by decide +kernel
theorem dX5_place_6 : decode cX5_place 6 = .ok (.iastore, 1) := by decide +kernel
theorem dX5_place_7 : decode cX5_place 7 = .ok (.aload_n 0, 1) := by decide +kernel
theorem dX5_place_8 : decode cX5_place 8 = .ok (.getfield 15, 3) := by decide +kernel
theorem dX5_place_11 : decode cX5_place 11 = .ok (.iload_n 1, 1) := by decide +kernel
theorem dX5_place_12 : decode cX5_place 12 = .ok (.iload_n 3, 1) := by decide +kernel
theorem dX5_place_13 : decode cX5_place 13 = .ok (.iastore, 1) := by decide +kernel
theorem dX5_place_14 : decode cX5_place 14 = .ok (.return_, 1) := by decide +kernel
theorem dX5_setWhole_0 : decode cX5_setWhole 0 = .ok (.aload_n 0, 1) := by decide +kernel
theorem dX5_setWhole_1 : decode cX5_setWhole 1 = .ok (.iload_n 2, 1) := by decide +kernel
theorem dX5_setWhole_2 : decode cX5_setWhole 2 = .ok (.ifCond .eq 14, 3) := by decide +kernel
theorem dX5_setWhole_5 : decode cX5_setWhole 5 = .ok (.aload_n 0, 1) := by decide +kernel
theorem dX5_setWhole_6 : decode cX5_setWhole 6 = .ok (.getfield 24, 3) := by decide +kernel
theorem dX5_setWhole_9 : decode cX5_setWhole 9 = .ok (.iconst 1, 1) := by decide +kernel
theorem dX5_setWhole_10 : decode cX5_setWhole 10 = .ok (.iload_n 1, 1) := by decide +kernel
theorem dX5_setWhole_11 : decode cX5_setWhole 11 = .ok (.ishl, 1) := by decide +kernel
theorem dX5_setWhole_12 : decode cX5_setWhole 12 = .ok (.ior, 1) := by decide +kernel
theorem dX5_setWhole_13 : decode cX5_setWhole 13 = .ok (.goto 13, 3) := by decide +kernel
theorem dX5_setWhole_16 : decode cX5_setWhole 16 = .ok (.aload_n 0, 1) := by decide +kernel
theorem dX5_setWhole_17 : decode cX5_setWhole 17 = .ok (.getfield 24, 3) := by decide +kernel
theorem dX5_setWhole_20 : decode cX5_setWhole 20 = .ok (.iconst 1, 1) := by decide +kernel
theorem dX5_setWhole_21 : decode cX5_setWhole 21 = .ok (.iload_n 1, 1) := by decide +kernel
theorem dX5_setWhole_22 : decode cX5_setWhole 22 = .ok (.ishl, 1) := by decide +kernel
theorem dX5_setWhole_23 : decode cX5_setWhole 23 = .ok (.iconst (-1), 1) := by decide +kernel
theorem dX5_setWhole_24 : decode cX5_setWhole 24 = .ok (.ixor, 1) := by decide +kernel
theorem dX5_setWhole_25 : decode cX5_setWhole 25 = .ok (.iand, 1) := by decide +kernel
theorem dX5_setWhole_26 : decode cX5_setWhole 26 = .ok (.putfield 24, 3) := by decide +kernel
theorem dX5_setWhole_29 : decode cX5_setWhole 29 = .ok (.return_, 1) := by decide +kernel
theorem dX6_init_0 : decode cX6_init 0 = .ok (.aload_n 0, 1) := by decide +kernel
theorem dX6_init_1 : decode cX6_init 1 = .ok (.invokespecial 3, 3) := by decide +kernel
theorem dX6_init_4 : decode cX6_init 4 = .ok (.aload_n 0, 1) := by decide +kernel
theorem dX6_init_5 : decode cX6_init 5 = .ok (.bipush 15, 2) := by decide +kernel
theorem dX6_init_7 : decode cX6_init 7 = .ok (.newarray .long, 2) := by decide +kernel
theorem dX6_init_9 : decode cX6_init 9 = .ok (.putfield 9, 3) := by decide +kernel
theorem dX6_init_12 : decode cX6_init 12 = .ok (.aload_n 0, 1) := by decide +kernel
theorem dX6_init_13 : decode cX6_init 13 = .ok (.bipush 15, 2) := by decide +kernel
theorem dX6_init_15 : decode cX6_init 15 = .ok (.newarray .long, 2) := by decide +kernel
theorem dX6_init_17 : decode cX6_init 17 = .ok (.putfield 15, 3) := by decide +kernel
theorem dX6_init_20 : decode cX6_init 20 = .ok (.aload_n 0, 1) := by decide +kernel
theorem dX6_init_21 : decode cX6_init 21 = .ok (.iconst 0, 1) := by decide +kernel
theorem dX6_init_22 : decode cX6_init 22 = .ok (.putfield 18, 3) := by decide +kernel
theorem dX6_init_25 : decode cX6_init 25 = .ok (.return_, 1) := by decide +kernel
theorem dX6_clear_0 : decode cX6_clear 0 = .ok (.aload_n 0, 1) := by decide +kernel
theorem dX6_clear_1 : decode cX6_clear 1 = .ok (.iconst 0, 1) := by decide +kernel
theorem dX6_clear_2 : decode cX6_clear 2 = .ok (.putfield 18, 3) := by decide +kernel
theorem dX6_clear_5 : decode cX6_clear 5 = .ok (.return_, 1) := by decide +kernel
theorem dX6_add_0 : decode cX6_add 0 = .ok (.lload_n 1, 1) := by decide +kernel
theorem dX6_add_1 : decode cX6_add 1 = .ok (.invokestatic 22, 3) := by decide +kernel
theorem dX6_add_4 : decode cX6_add 4 = .ok (.lload_n 3, 1) := by decide +kernel
theorem dX6_add_5 : decode cX6_add 5 = .ok (.invokestatic 28, 3) := by decide +kernel
theorem dX6_add_8 : decode cX6_add 8 = .ok (.lstore 5, 2) := by decide +kernel
theorem dX6_add_10 : decode cX6_add 10 = .ok (.aload_n 0, 1) := by decide +kernel
theorem dX6_add_11 : decode cX6_add 11 = .ok (.getfield 18, 3) := by decide +kernel
theorem dX6_add_14 : decode cX6_add 14 = .ok (.bipush 15, 2) := by decide +kernel
theorem dX6_add_16 : decode cX6_add 16 = .ok (.if_icmp .ge 10, 3) := by decide +kernel
theorem dX6_add_19 : decode cX6_add 19 = .ok (.lload 5, 2) := by decide +kernel
theorem dX6_add_21 : decode cX6_add 21 = .ok (.lconst 1, 1) := by decide +kernel
theorem dX6_add_22 : decode cX6_add 22 = .ok (.lcmp, 1) := by decide +kernel
theorem dX6_add_23 : decode cX6_add 23 = .ok (.ifCond .ge 4, 3) := by decide +kernel
theorem dX6_add_26 : decode cX6_add 26 = .ok (.return_, 1) := by decide +kernel
theorem dX6_add_27 : decode cX6_add 27 = .ok (.aload_n 0, 1) := by decide +kernel
theorem dX6_add_28 : decode cX6_add 28 = .ok (.getfield 9, 3) := by decide +kernel
theorem dX6_add_31 : decode cX6_add 31 = .ok (.aload_n 0, 1) := by decide +kernel
theorem dX6_add_32 : decode cX6_add 32 = .ok (.getfield 18, 3) := by decide +kernel
theorem dX6_add_35 : decode cX6_add 35 = .ok (.lload_n 1, 1) := by decide +kernel
theorem dX6_add_36 : decode cX6_add 36 = .ok (.lload 5, 2) := by decide +kernel
theorem dX6_add_38 : decode cX6_add 38 = .ok (.ldiv, 1) := by decide +kernel
theorem dX6_add_39 : decode cX6_add 39 = .ok (.lastore, 1) := by decide +kernel
theorem dX6_add_40 : decode cX6_add 40 = .ok (.aload_n 0, 1) := by decide +kernel
theorem dX6_add_41 : decode cX6_add 41 = .ok (.getfield 15, 3) := by decide +kernel
theorem dX6_add_44 : decode cX6_add 44 = .ok (.aload_n 0, 1) := by decide +kernel
theorem dX6_add_45 : decode cX6_add 45 = .ok (.getfield 18, 3) := by decide +kernel
theorem dX6_add_48 : decode cX6_add 48 = .ok (.lload_n 3, 1) := by decide +kernel
theorem dX6_add_49 : decode cX6_add 49 = .ok (.lload 5, 2) := by decide +kernel
theorem dX6_add_51 : decode cX6_add 51 = .ok (.ldiv, 1) := by decide +kernel
theorem dX6_add_52 : decode cX6_add 52 = .ok (.lastore, 1) := by decide +kernel
theorem dX6_add_53 : decode cX6_add 53 = .ok (.aload_n 0, 1) := by decide +kernel
theorem dX6_add_54 : decode cX6_add 54 = .ok (.dup, 1) := by decide +kernel
theorem dX6_add_55 : decode cX6_add 55 = .ok (.getfield 18, 3) := by decide +kernel
theorem dX6_add_58 : decode cX6_add 58 = .ok (.iconst 1, 1) := by decide +kernel
theorem dX6_add_59 : decode cX6_add 59 = .ok (.iadd, 1) := by decide +kernel
theorem dX6_add_60 : decode cX6_add 60 = .ok (.putfield 18, 3) := by decide +kernel
theorem dX6_add_63 : decode cX6_add 63 = .ok (.return_, 1) := by decide +kernel
theorem dX7_init_0 : decode cX7_init 0 = .ok (.aload_n 0, 1) := by decide +kernel
theorem dX7_init_1 : decode cX7_init 1 = .ok (.invokespecial 3, 3) := by decide +kernel
theorem dX7_init_4 : decode cX7_init 4 = .ok (.aload_n 0, 1) := by decide +kernel
theorem dX7_init_5 : decode cX7_init 5 = .ok (.new 9, 3) := by decide +kernel
theorem dX7_init_8 : decode cX7_init 8 = .ok (.dup, 1) := by decide +kernel
theorem dX7_init_9 : decode cX7_init 9 = .ok (.invokespecial 11, 3) := by decide +kernel
theorem dX7_init_12 : decode cX7_init 12 = .ok (.putfield 12, 3) := by decide +kernel
theorem dX7_init_15 : decode cX7_init 15 = .ok (.aload_n 0, 1) := by decide +kernel
theorem dX7_init_16 : decode cX7_init 16 = .ok (.new 16, 3) := by decide +kernel
theorem dX7_init_19 : decode cX7_init 19 = .ok (.dup, 1) := by decide +kernel
theorem dX7_init_20 : decode cX7_init 20 = .ok (.invokespecial 18, 3) := by decide +kernel
theorem dX7_init_23 : decode cX7_init 23 = .ok (.putfield 19, 3) := by decide +kernel
theorem dX7_init_26 : decode cX7_init 26 = .ok (.aload_n 0, 1) := by decide +kernel
theorem dX7_init_27 : decode cX7_init 27 = .ok (.new 23, 3) := by decide +kernel
theorem dX7_init_30 : decode cX7_init 30 = .ok (.dup, 1) := by decide +kernel
theorem dX7_init_31 : decode cX7_init 31 = .ok (.invokespecial 25, 3) := by decide +kernel
theorem dX7_init_34 : decode cX7_init 34 = .ok (.putfield 26, 3) := by decide +kernel
theorem dX7_init_37 : decode cX7_init 37 = .ok (.aload_n 0, 1) := by decide +kernel
theorem dX7_init_38 : decode cX7_init 38 = .ok (.new 30, 3) := by decide +kernel
theorem dX7_init_41 : decode cX7_init 41 = .ok (.dup, 1) := by decide +kernel
theorem dX7_init_42 : decode cX7_init 42 = .ok (.aload_n 0, 1) := by decide +kernel
theorem dX7_init_43 : decode cX7_init 43 = .ok (.getfield 19, 3) := by decide +kernel
theorem dX7_init_46 : decode cX7_init 46 = .ok (.invokespecial 32, 3) := by decide +kernel
theorem dX7_init_49 : decode cX7_init 49 = .ok (.putfield 35, 3) := by decide +kernel
theorem dX7_init_52 : decode cX7_init 52 = .ok (.aload_n 0, 1) := by decide +kernel
theorem dX7_init_53 : decode cX7_init 53 = .ok (.new 39, 3) := by decide +kernel
theorem dX7_init_56 : decode cX7_init 56 = .ok (.dup, 1) := by decide +kernel
theorem dX7_init_57 : decode cX7_init 57 = .ok (.invokespecial 41, 3) := by decide +kernel
theorem dX7_init_60 : decode cX7_init 60 = .ok (.putfield 42, 3) := by decide +kernel
theorem dX7_init_63 : decode cX7_init 63 = .ok (.aload_n 0, 1) := by decide +kernel
theorem dX7_init_64 : decode cX7_init 64 = .ok (.new 46, 3) := by decide +kernel
theorem dX7_init_67 : decode cX7_init 67 = .ok (.dup, 1) := by decide +kernel
theorem dX7_init_68 : decode cX7_init 68 = .ok (.invokespecial 48, 3) := by decide +kernel
theorem dX7_init_71 : decode cX7_init 71 = .ok (.putfield 49, 3) := by decide +kernel
theorem dX7_init_74 : decode cX7_init 74 = .ok (.aload_n 0, 1) := by decide +kernel
theorem dX7_init_75 : decode cX7_init 75 = .ok (.new 53, 3) := by decide +kernel
theorem dX7_init_78 : decode cX7_init 78 = .ok (.dup, 1) := by decide +kernel
theorem dX7_init_79 : decode cX7_init 79 = .ok (.invokespecial 55, 3) := by decide +kernel
theorem dX7_init_82 : decode cX7_init 82 = .ok (.putfield 56, 3) := by decide +kernel
theorem dX7_init_85 : decode cX7_init 85 = .ok (.aload_n 0, 1) := by decide +kernel
theorem dX7_init_86 : decode cX7_init 86 = .ok (.iconst 0, 1) := by decide +kernel
theorem dX7_init_87 : decode cX7_init 87 = .ok (.putfield 60, 3) := by decide +kernel
theorem dX7_init_90 : decode cX7_init 90 = .ok (.return_, 1) := by decide +kernel
theorem dX7_layer_0 : decode cX7_layer 0 = .ok (.iload_n 1, 1) := by decide +kernel
theorem dX7_layer_1 : decode cX7_layer 1 = .ok (.iconst 1, 1) := by decide +kernel
theorem dX7_layer_2 : decode cX7_layer 2 = .ok (.bipush 50, 2) := by decide +kernel
theorem dX7_layer_4 : decode cX7_layer 4 = .ok (.invokestatic 64, 3) := by decide +kernel
theorem dX7_layer_7 : decode cX7_layer 7 = .ok (.ifCond .eq 17, 3) := by decide +kernel
theorem dX7_layer_10 : decode cX7_layer 10 = .ok (.iload_n 2, 1) := by decide +kernel
theorem dX7_layer_11 : decode cX7_layer 11 = .ok (.invokestatic 68, 3) := by decide +kernel
theorem dX7_layer_14 : decode cX7_layer 14 = .ok (.ifCond .eq 10, 3) := by decide +kernel
theorem dX7_layer_17 : decode cX7_layer 17 = .ok (.iload_n 3, 1) := by decide +kernel
theorem dX7_layer_18 : decode cX7_layer 18 = .ok (.invokestatic 72, 3) := by decide +kernel
theorem dX7_layer_21 : decode cX7_layer 21 = .ok (.ifCond .ne 5, 3) := by decide +kernel
theorem dX7_layer_24 : decode cX7_layer 24 = .ok (.iconst (-1), 1) := by decide +kernel
theorem dX7_layer_25 : decode cX7_layer 25 = .ok (.ireturn, 1) := by decide +kernel
theorem dX7_layer_26 : decode cX7_layer 26 = .ok (.aload_n 0, 1) := by decide +kernel
theorem dX7_layer_27 : decode cX7_layer 27 = .ok (.getfield 12, 3) := by decide +kernel
theorem dX7_layer_30 : decode cX7_layer 30 = .ok (.getfield 75, 3) := by decide +kernel
theorem dX7_layer_33 : decode cX7_layer 33 = .ok (.bipush 6, 2) := by decide +kernel
theorem dX7_layer_35 : decode cX7_layer 35 = .ok (.if_icmp .lt 6, 3) := by decide +kernel
theorem dX7_layer_38 : decode cX7_layer 38 = .ok (.bipush (-3), 2) := by decide +kernel
theorem dX7_layer_40 : decode cX7_layer 40 = .ok (.ireturn, 1) := by decide +kernel
theorem dX7_layer_41 : decode cX7_layer 41 = .ok (.aload_n 0, 1) := by decide +kernel
theorem dX7_layer_42 : decode cX7_layer 42 = .ok (.getfield 12, 3) := by decide +kernel
theorem dX7_layer_45 : decode cX7_layer 45 = .ok (.iload_n 1, 1) := by decide +kernel
theorem dX7_layer_46 : decode cX7_layer 46 = .ok (.iload_n 2, 1) := by decide +kernel
theorem dX7_layer_47 : decode cX7_layer 47 = .ok (.iload_n 3, 1) := by decide +kernel
theorem dX7_layer_48 : decode cX7_layer 48 = .ok (.invokevirtual 78, 3) := by decide +kernel
theorem dX7_layer_51 : decode cX7_layer 51 = .ok (.ireturn, 1) := by decide +kernel
theorem dX7_change_0 : decode cX7_change 0 = .ok (.aload_n 0, 1) := by decide +kernel
theorem dX7_change_1 : decode cX7_change 1 = .ok (.getfield 12, 3) := by decide +kernel
theorem dX7_change_4 : decode cX7_change 4 = .ok (.iload_n 1, 1) := by decide +kernel
theorem dX7_change_5 : decode cX7_change 5 = .ok (.invokevirtual 82, 3) := by decide +kernel
theorem dX7_change_8 : decode cX7_change 8 = .ok (.ifCond .ne 5, 3) := by decide +kernel
theorem dX7_change_11 : decode cX7_change 11 = .ok (.iconst (-1), 1) := by decide +kernel
theorem dX7_change_12 : decode cX7_change 12 = .ok (.ireturn, 1) := by decide +kernel
theorem dX7_change_13 : decode cX7_change 13 = .ok (.iload_n 2, 1) := by decide +kernel
theorem dX7_change_14 : decode cX7_change 14 = .ok (.ifCond .ne 20, 3) := by decide +kernel
theorem dX7_change_17 : decode cX7_change 17 = .ok (.iload_n 3, 1) := by decide +kernel
theorem dX7_change_18 : decode cX7_change 18 = .ok (.invokestatic 68, 3) := by decide +kernel
theorem dX7_change_21 : decode cX7_change 21 = .ok (.ifCond .eq 13, 3) := by decide +kernel
theorem dX7_change_24 : decode cX7_change 24 = .ok (.aload_n 0, 1) := by decide +kernel
theorem dX7_change_25 : decode cX7_change 25 = .ok (.getfield 12, 3) := by decide +kernel
theorem dX7_change_28 : decode cX7_change 28 = .ok (.iload_n 1, 1) := by decide +kernel
theorem dX7_change_29 : decode cX7_change 29 = .ok (.iload_n 3, 1) := by decide +kernel
theorem dX7_change_30 : decode cX7_change 30 = .ok (.invokevirtual 85, 3) := by decide +kernel
theorem dX7_change_33 : decode cX7_change 33 = .ok (.ireturn, 1) := by decide +kernel
theorem dX7_change_34 : decode cX7_change 34 = .ok (.iload_n 2, 1) := by decide +kernel
theorem dX7_change_35 : decode cX7_change 35 = .ok (.iconst 1, 1) := by decide +kernel
theorem dX7_change_36 : decode cX7_change 36 = .ok (.if_icmp .ne 20, 3) := by decide +kernel
theorem dX7_change_39 : decode cX7_change 39 = .ok (.iload_n 3, 1) := by decide +kernel
theorem dX7_change_40 : decode cX7_change 40 = .ok (.invokestatic 72, 3) := by decide +kernel
theorem dX7_change_43 : decode cX7_change 43 = .ok (.ifCond .eq 13, 3) := by decide +kernel
theorem dX7_change_46 : decode cX7_change 46 = .ok (.aload_n 0, 1) := by decide +kernel
theorem dX7_change_47 : decode cX7_change 47 = .ok (.getfield 12, 3) := by decide +kernel
theorem dX7_change_50 : decode cX7_change 50 = .ok (.iload_n 1, 1) := by decide +kernel
theorem dX7_change_51 : decode cX7_change 51 = .ok (.iload_n 3, 1) := by decide +kernel
theorem dX7_change_52 : decode cX7_change 52 = .ok (.invokevirtual 89, 3) := by decide +kernel
theorem dX7_change_55 : decode cX7_change 55 = .ok (.ireturn, 1) := by decide +kernel
theorem dX7_change_56 : decode cX7_change 56 = .ok (.iconst (-1), 1) := by decide +kernel
theorem dX7_change_57 : decode cX7_change 57 = .ok (.ireturn, 1) := by decide +kernel
theorem dX7_rule_0 : decode cX7_rule 0 = .ok (.iload_n 1, 1) := by decide +kernel
theorem dX7_rule_1 : decode cX7_rule 1 = .ok (.ifCond .ne 22, 3) := by decide +kernel
theorem dX7_rule_4 : decode cX7_rule 4 = .ok (.iload_n 2, 1) := by decide +kernel
theorem dX7_rule_5 : decode cX7_rule 5 = .ok (.iconst 0, 1) := by decide +kernel
theorem dX7_rule_6 : decode cX7_rule 6 = .ok (.bipush 20, 2) := by decide +kernel
theorem dX7_rule_8 : decode cX7_rule 8 = .ok (.invokestatic 64, 3) := by decide +kernel
theorem dX7_rule_11 : decode cX7_rule 11 = .ok (.ifCond .eq 12, 3) := by decide +kernel
theorem dX7_rule_14 : decode cX7_rule 14 = .ok (.aload_n 0, 1) := by decide +kernel
theorem dX7_rule_15 : decode cX7_rule 15 = .ok (.getfield 12, 3) := by decide +kernel
theorem dX7_rule_18 : decode cX7_rule 18 = .ok (.iload_n 2, 1) := by decide +kernel
theorem dX7_rule_19 : decode cX7_rule 19 = .ok (.invokevirtual 92, 3) := by decide +kernel
theorem dX7_rule_22 : decode cX7_rule 22 = .ok (.ireturn, 1) := by decide +kernel
theorem dX7_rule_23 : decode cX7_rule 23 = .ok (.iload_n 1, 1) := by decide +kernel
theorem dX7_rule_24 : decode cX7_rule 24 = .ok (.iconst 1, 1) := by decide +kernel
theorem dX7_rule_25 : decode cX7_rule 25 = .ok (.if_icmp .ne 25, 3) := by decide +kernel
theorem dX7_rule_28 : decode cX7_rule 28 = .ok (.iload_n 2, 1) := by decide +kernel
theorem dX7_rule_29 : decode cX7_rule 29 = .ok (.iconst 0, 1) := by decide +kernel
theorem dX7_rule_30 : decode cX7_rule 30 = .ok (.bipush 40, 2) := by decide +kernel
theorem dX7_rule_32 : decode cX7_rule 32 = .ok (.invokestatic 64, 3) := by decide +kernel
theorem dX7_rule_35 : decode cX7_rule 35 = .ok (.ifCond .eq 15, 3) := by decide +kernel
theorem dX7_rule_38 : decode cX7_rule 38 = .ok (.aload_n 0, 1) := by decide +kernel
theorem dX7_rule_39 : decode cX7_rule 39 = .ok (.getfield 60, 3) := by decide +kernel
theorem dX7_rule_42 : decode cX7_rule 42 = .ok (.istore_n 3, 1) := by decide +kernel
theorem dX7_rule_43 : decode cX7_rule 43 = .ok (.aload_n 0, 1) := by decide +kernel
theorem dX7_rule_44 : decode cX7_rule 44 = .ok (.iload_n 2, 1) := by decide +kernel
theorem dX7_rule_45 : decode cX7_rule 45 = .ok (.putfield 60, 3) := by decide +kernel
theorem dX7_rule_48 : decode cX7_rule 48 = .ok (.iload_n 3, 1) := by decide +kernel
theorem dX7_rule_49 : decode cX7_rule 49 = .ok (.ireturn, 1) := by decide +kernel
theorem dX7_rule_50 : decode cX7_rule 50 = .ok (.iconst (-1), 1) := by decide +kernel
theorem dX7_rule_51 : decode cX7_rule 51 = .ok (.ireturn, 1) := by decide +kernel
theorem dX7_pile_0 : decode cX7_pile 0 = .ok (.iload_n 1, 1) := by decide +kernel
theorem dX7_pile_1 : decode cX7_pile 1 = .ok (.iload_n 2, 1) := by decide +kernel
theorem dX7_pile_2 : decode cX7_pile 2 = .ok (.invokestatic 96, 3) := by decide +kernel
theorem dX7_pile_5 : decode cX7_pile 5 = .ok (.ifCond .eq 24, 3) := by decide +kernel
theorem dX7_pile_8 : decode cX7_pile 8 = .ok (.iload_n 3, 1) := by decide +kernel
theorem dX7_pile_9 : decode cX7_pile 9 = .ok (.iconst 1, 1) := by decide +kernel
theorem dX7_pile_10 : decode cX7_pile 10 = .ok (.bipush 100, 2) := by decide +kernel
theorem dX7_pile_12 : decode cX7_pile 12 = .ok (.invokestatic 64, 3) := by decide +kernel
theorem dX7_pile_15 : decode cX7_pile 15 = .ok (.ifCond .eq 14, 3) := by decide +kernel
theorem dX7_pile_18 : decode cX7_pile 18 = .ok (.iload 4, 2) := by decide +kernel
theorem dX7_pile_20 : decode cX7_pile 20 = .ok (.iconst 1, 1) := by decide +kernel
theorem dX7_pile_21 : decode cX7_pile 21 = .ok (.bipush 20, 2) := by decide +kernel
theorem dX7_pile_23 : decode cX7_pile 23 = .ok (.invokestatic 64, 3) := by decide +kernel
theorem dX7_pile_26 : decode cX7_pile 26 = .ok (.ifCond .ne 5, 3) := by decide +kernel
theorem dX7_pile_29 : decode cX7_pile 29 = .ok (.iconst (-1), 1) := by decide +kernel
theorem dX7_pile_30 : decode cX7_pile 30 = .ok (.ireturn, 1) := by decide +kernel
theorem dX7_pile_31 : decode cX7_pile 31 = .ok (.aload_n 0, 1) := by decide +kernel
theorem dX7_pile_32 : decode cX7_pile 32 = .ok (.getfield 19, 3) := by decide +kernel
theorem dX7_pile_35 : decode cX7_pile 35 = .ok (.getfield 100, 3) := by decide +kernel
theorem dX7_pile_38 : decode cX7_pile 38 = .ok (.bipush 12, 2) := by decide +kernel
theorem dX7_pile_40 : decode cX7_pile 40 = .ok (.if_icmp .lt 6, 3) := by decide +kernel
theorem dX7_pile_43 : decode cX7_pile 43 = .ok (.bipush (-3), 2) := by decide +kernel
theorem dX7_pile_45 : decode cX7_pile 45 = .ok (.ireturn, 1) := by decide +kernel
theorem dX7_pile_46 : decode cX7_pile 46 = .ok (.aload_n 0, 1) := by decide +kernel
theorem dX7_pile_47 : decode cX7_pile 47 = .ok (.getfield 19, 3) := by decide +kernel
theorem dX7_pile_50 : decode cX7_pile 50 = .ok (.iload_n 1, 1) := by decide +kernel
theorem dX7_pile_51 : decode cX7_pile 51 = .ok (.iload_n 2, 1) := by decide +kernel
theorem dX7_pile_52 : decode cX7_pile 52 = .ok (.iload_n 3, 1) := by decide +kernel
theorem dX7_pile_53 : decode cX7_pile 53 = .ok (.iload 4, 2) := by decide +kernel
theorem dX7_pile_55 : decode cX7_pile 55 = .ok (.invokevirtual 101, 3) := by decide +kernel
theorem dX7_pile_58 : decode cX7_pile 58 = .ok (.ireturn, 1) := by decide +kernel
theorem dX7_shift_0 : decode cX7_shift 0 = .ok (.aload_n 0, 1) := by decide +kernel
theorem dX7_shift_1 : decode cX7_shift 1 = .ok (.getfield 19, 3) := by decide +kernel
theorem dX7_shift_4 : decode cX7_shift 4 = .ok (.iload_n 1, 1) := by decide +kernel
theorem dX7_shift_5 : decode cX7_shift 5 = .ok (.invokevirtual 104, 3) := by decide +kernel
theorem dX7_shift_8 : decode cX7_shift 8 = .ok (.ifCond .eq 11, 3) := by decide +kernel
theorem dX7_shift_11 : decode cX7_shift 11 = .ok (.iload_n 2, 1) := by decide +kernel
theorem dX7_shift_12 : decode cX7_shift 12 = .ok (.iload_n 3, 1) := by decide +kernel
theorem dX7_shift_13 : decode cX7_shift 13 = .ok (.invokestatic 96, 3) := by decide +kernel
theorem dX7_shift_16 : decode cX7_shift 16 = .ok (.ifCond .ne 5, 3) := by decide +kernel
theorem dX7_shift_19 : decode cX7_shift 19 = .ok (.iconst (-1), 1) := by decide +kernel
theorem dX7_shift_20 : decode cX7_shift 20 = .ok (.ireturn, 1) := by decide +kernel
theorem dX7_shift_21 : decode cX7_shift 21 = .ok (.aload_n 0, 1) := by decide +kernel
theorem dX7_shift_22 : decode cX7_shift 22 = .ok (.getfield 19, 3) := by decide +kernel
theorem dX7_shift_25 : decode cX7_shift 25 = .ok (.iload_n 1, 1) := by decide +kernel
theorem dX7_shift_26 : decode cX7_shift 26 = .ok (.iload_n 2, 1) := by decide +kernel
theorem dX7_shift_27 : decode cX7_shift 27 = .ok (.iload_n 3, 1) := by decide +kernel
theorem dX7_shift_28 : decode cX7_shift 28 = .ok (.invokevirtual 105, 3) := by decide +kernel
theorem dX7_shift_31 : decode cX7_shift 31 = .ok (.iconst 0, 1) := by decide +kernel
theorem dX7_shift_32 : decode cX7_shift 32 = .ok (.ireturn, 1) := by decide +kernel
theorem dX7_whole_0 : decode cX7_whole 0 = .ok (.aload_n 0, 1) := by decide +kernel
theorem dX7_whole_1 : decode cX7_whole 1 = .ok (.getfield 19, 3) := by decide +kernel
theorem dX7_whole_4 : decode cX7_whole 4 = .ok (.iload_n 1, 1) := by decide +kernel
theorem dX7_whole_5 : decode cX7_whole 5 = .ok (.invokevirtual 104, 3) := by decide +kernel
theorem dX7_whole_8 : decode cX7_whole 8 = .ok (.ifCond .ne 5, 3) := by decide +kernel
theorem dX7_whole_11 : decode cX7_whole 11 = .ok (.iconst (-1), 1) := by decide +kernel
theorem dX7_whole_12 : decode cX7_whole 12 = .ok (.ireturn, 1) := by decide +kernel
theorem dX7_whole_13 : decode cX7_whole 13 = .ok (.aload_n 0, 1) := by decide +kernel
theorem dX7_whole_14 : decode cX7_whole 14 = .ok (.getfield 19, 3) := by decide +kernel
theorem dX7_whole_17 : decode cX7_whole 17 = .ok (.iload_n 1, 1) := by decide +kernel
theorem dX7_whole_18 : decode cX7_whole 18 = .ok (.invokevirtual 109, 3) := by decide +kernel
theorem dX7_whole_21 : decode cX7_whole 21 = .ok (.ifCond .eq 7, 3) := by decide +kernel
theorem dX7_whole_24 : decode cX7_whole 24 = .ok (.iconst 1, 1) := by decide +kernel
theorem dX7_whole_25 : decode cX7_whole 25 = .ok (.goto 4, 3) := by decide +kernel
theorem dX7_whole_28 : decode cX7_whole 28 = .ok (.iconst 0, 1) := by decide +kernel
theorem dX7_whole_29 : decode cX7_whole 29 = .ok (.istore_n 3, 1) := by decide +kernel
theorem dX7_whole_30 : decode cX7_whole 30 = .ok (.aload_n 0, 1) := by decide +kernel
theorem dX7_whole_31 : decode cX7_whole 31 = .ok (.getfield 19, 3) := by decide +kernel
theorem dX7_whole_34 : decode cX7_whole 34 = .ok (.iload_n 1, 1) := by decide +kernel
theorem dX7_whole_35 : decode cX7_whole 35 = .ok (.iload_n 2, 1) := by decide +kernel
theorem dX7_whole_36 : decode cX7_whole 36 = .ok (.invokevirtual 112, 3) := by decide +kernel
theorem dX7_whole_39 : decode cX7_whole 39 = .ok (.iload_n 3, 1) := by decide +kernel
theorem dX7_whole_40 : decode cX7_whole 40 = .ok (.ireturn, 1) := by decide +kernel
theorem dX7_about_0 : decode cX7_about 0 = .ok (.aload_n 0, 1) := by decide +kernel
theorem dX7_about_1 : decode cX7_about 1 = .ok (.getfield 19, 3) := by decide +kernel
theorem dX7_about_4 : decode cX7_about 4 = .ok (.iload_n 1, 1) := by decide +kernel
theorem dX7_about_5 : decode cX7_about 5 = .ok (.invokevirtual 104, 3) := by decide +kernel
theorem dX7_about_8 : decode cX7_about 8 = .ok (.ifCond .ne 7, 3) := by decide +kernel
theorem dX7_about_11 : decode cX7_about 11 = .ok (.sipush (-1000), 3) := by decide +kernel
theorem dX7_about_14 : decode cX7_about 14 = .ok (.ireturn, 1) := by decide +kernel
theorem dX7_about_15 : decode cX7_about 15 = .ok (.iload_n 2, 1) := by decide +kernel
theorem dX7_about_16 : decode cX7_about 16 = .ok (.tableswitch 135 0 6 #[44, 54, 64, 74, 84, 101, 118], 44) := by decide +kernel
theorem dX7_about_60 : decode cX7_about 60 = .ok (.aload_n 0, 1) := by decide +kernel
theorem dX7_about_61 : decode cX7_about 61 = .ok (.getfield 19, 3) := by decide +kernel
theorem dX7_about_64 : decode cX7_about 64 = .ok (.getfield 116, 3) := by decide +kernel
theorem dX7_about_67 : decode cX7_about 67 = .ok (.iload_n 1, 1) := by decide +kernel
theorem dX7_about_68 : decode cX7_about 68 = .ok (.iaload, 1) := by decide +kernel
theorem dX7_about_69 : decode cX7_about 69 = .ok (.ireturn, 1) := by decide +kernel
theorem dX7_about_70 : decode cX7_about 70 = .ok (.aload_n 0, 1) := by decide +kernel
theorem dX7_about_71 : decode cX7_about 71 = .ok (.getfield 19, 3) := by decide +kernel
theorem dX7_about_74 : decode cX7_about 74 = .ok (.getfield 120, 3) := by decide +kernel
theorem dX7_about_77 : decode cX7_about 77 = .ok (.iload_n 1, 1) := by decide +kernel
theorem dX7_about_78 : decode cX7_about 78 = .ok (.iaload, 1) := by decide +kernel
theorem dX7_about_79 : decode cX7_about 79 = .ok (.ireturn, 1) := by decide +kernel
theorem dX7_about_80 : decode cX7_about 80 = .ok (.aload_n 0, 1) := by decide +kernel
theorem dX7_about_81 : decode cX7_about 81 = .ok (.getfield 19, 3) := by decide +kernel
theorem dX7_about_84 : decode cX7_about 84 = .ok (.getfield 123, 3) := by decide +kernel
theorem dX7_about_87 : decode cX7_about 87 = .ok (.iload_n 1, 1) := by decide +kernel
theorem dX7_about_88 : decode cX7_about 88 = .ok (.iaload, 1) := by decide +kernel
theorem dX7_about_89 : decode cX7_about 89 = .ok (.ireturn, 1) := by decide +kernel
theorem dX7_about_90 : decode cX7_about 90 = .ok (.aload_n 0, 1) := by decide +kernel
theorem dX7_about_91 : decode cX7_about 91 = .ok (.getfield 19, 3) := by decide +kernel
theorem dX7_about_94 : decode cX7_about 94 = .ok (.getfield 126, 3) := by decide +kernel
theorem dX7_about_97 : decode cX7_about 97 = .ok (.iload_n 1, 1) := by decide +kernel
theorem dX7_about_98 : decode cX7_about 98 = .ok (.iaload, 1) := by decide +kernel
theorem dX7_about_99 : decode cX7_about 99 = .ok (.ireturn, 1) := by decide +kernel
theorem dX7_about_100 : decode cX7_about 100 = .ok (.aload_n 0, 1) := by decide +kernel
theorem dX7_about_101 : decode cX7_about 101 = .ok (.getfield 19, 3) := by decide +kernel
theorem dX7_about_104 : decode cX7_about 104 = .ok (.iload_n 1, 1) := by decide +kernel
theorem dX7_about_105 : decode cX7_about 105 = .ok (.invokevirtual 109, 3) := by decide +kernel
theorem dX7_about_108 : decode cX7_about 108 = .ok (.ifCond .eq 7, 3) := by decide +kernel
theorem dX7_about_111 : decode cX7_about 111 = .ok (.iconst 1, 1) := by decide +kernel
theorem dX7_about_112 : decode cX7_about 112 = .ok (.goto 4, 3) := by decide +kernel
theorem dX7_about_115 : decode cX7_about 115 = .ok (.iconst 0, 1) := by decide +kernel
theorem dX7_about_116 : decode cX7_about 116 = .ok (.ireturn, 1) := by decide +kernel
theorem dX7_about_117 : decode cX7_about 117 = .ok (.aload_n 0, 1) := by decide +kernel
theorem dX7_about_118 : decode cX7_about 118 = .ok (.getfield 12, 3) := by decide +kernel
theorem dX7_about_121 : decode cX7_about 121 = .ok (.aload_n 0, 1) := by decide +kernel
theorem dX7_about_122 : decode cX7_about 122 = .ok (.getfield 19, 3) := by decide +kernel
theorem dX7_about_125 : decode cX7_about 125 = .ok (.getfield 123, 3) := by decide +kernel
theorem dX7_about_128 : decode cX7_about 128 = .ok (.iload_n 1, 1) := by decide +kernel
theorem dX7_about_129 : decode cX7_about 129 = .ok (.iaload, 1) := by decide +kernel
theorem dX7_about_130 : decode cX7_about 130 = .ok (.invokevirtual 129, 3) := by decide +kernel
theorem dX7_about_133 : decode cX7_about 133 = .ok (.ireturn, 1) := by decide +kernel
theorem dX7_about_134 : decode cX7_about 134 = .ok (.aload_n 0, 1) := by decide +kernel
theorem dX7_about_135 : decode cX7_about 135 = .ok (.getfield 12, 3) := by decide +kernel
theorem dX7_about_138 : decode cX7_about 138 = .ok (.aload_n 0, 1) := by decide +kernel
theorem dX7_about_139 : decode cX7_about 139 = .ok (.getfield 19, 3) := by decide +kernel
theorem dX7_about_142 : decode cX7_about 142 = .ok (.getfield 123, 3) := by decide +kernel
theorem dX7_about_145 : decode cX7_about 145 = .ok (.iload_n 1, 1) := by decide +kernel
theorem dX7_about_146 : decode cX7_about 146 = .ok (.iaload, 1) := by decide +kernel
theorem dX7_about_147 : decode cX7_about 147 = .ok (.invokevirtual 132, 3) := by decide +kernel
theorem dX7_about_150 : decode cX7_about 150 = .ok (.ireturn, 1) := by decide +kernel
theorem dX7_about_151 : decode cX7_about 151 = .ok (.sipush (-1000), 3) := by decide +kernel
theorem dX7_about_154 : decode cX7_about 154 = .ok (.ireturn, 1) := by decide +kernel
theorem dX7_load_0 : decode cX7_load 0 = .ok (.iload_n 1, 1) := by decide +kernel
theorem dX7_load_1 : decode cX7_load 1 = .ok (.invokestatic 135, 3) := by decide +kernel
theorem dX7_load_4 : decode cX7_load 4 = .ok (.ifCond .eq 25, 3) := by decide +kernel
theorem dX7_load_7 : decode cX7_load 7 = .ok (.iload_n 2, 1) := by decide +kernel
theorem dX7_load_8 : decode cX7_load 8 = .ok (.sipush (-500), 3) := by decide +kernel
theorem dX7_load_11 : decode cX7_load 11 = .ok (.sipush 500, 3) := by decide +kernel
theorem dX7_load_14 : decode cX7_load 14 = .ok (.invokestatic 64, 3) := by decide +kernel
theorem dX7_load_17 : decode cX7_load 17 = .ok (.ifCond .eq 12, 3) := by decide +kernel
theorem dX7_load_20 : decode cX7_load 20 = .ok (.iload_n 3, 1) := by decide +kernel
theorem dX7_load_21 : decode cX7_load 21 = .ok (.iload 4, 2) := by decide +kernel
theorem dX7_load_23 : decode cX7_load 23 = .ok (.invokestatic 96, 3) := by decide +kernel
theorem dX7_load_26 : decode cX7_load 26 = .ok (.ifCond .ne 5, 3) := by decide +kernel
theorem dX7_load_29 : decode cX7_load 29 = .ok (.iconst (-1), 1) := by decide +kernel
theorem dX7_load_30 : decode cX7_load 30 = .ok (.ireturn, 1) := by decide +kernel
theorem dX7_load_31 : decode cX7_load 31 = .ok (.aload_n 0, 1) := by decide +kernel
theorem dX7_load_32 : decode cX7_load 32 = .ok (.getfield 26, 3) := by decide +kernel
theorem dX7_load_35 : decode cX7_load 35 = .ok (.getfield 138, 3) := by decide +kernel
theorem dX7_load_38 : decode cX7_load 38 = .ok (.iload_n 1, 1) := by decide +kernel
theorem dX7_load_39 : decode cX7_load 39 = .ok (.iaload, 1) := by decide +kernel
theorem dX7_load_40 : decode cX7_load 40 = .ok (.bipush 6, 2) := by decide +kernel
theorem dX7_load_42 : decode cX7_load 42 = .ok (.if_icmp .lt 6, 3) := by decide +kernel
theorem dX7_load_45 : decode cX7_load 45 = .ok (.bipush (-3), 2) := by decide +kernel
theorem dX7_load_47 : decode cX7_load 47 = .ok (.ireturn, 1) := by decide +kernel
theorem dX7_load_48 : decode cX7_load 48 = .ok (.aload_n 0, 1) := by decide +kernel
theorem dX7_load_49 : decode cX7_load 49 = .ok (.getfield 26, 3) := by decide +kernel
theorem dX7_load_52 : decode cX7_load 52 = .ok (.iload_n 1, 1) := by decide +kernel
theorem dX7_load_53 : decode cX7_load 53 = .ok (.iload_n 2, 1) := by decide +kernel
theorem dX7_load_54 : decode cX7_load 54 = .ok (.iload_n 3, 1) := by decide +kernel
theorem dX7_load_55 : decode cX7_load 55 = .ok (.iload 4, 2) := by decide +kernel
theorem dX7_load_57 : decode cX7_load 57 = .ok (.invokevirtual 140, 3) := by decide +kernel
theorem dX7_load_60 : decode cX7_load 60 = .ok (.ireturn, 1) := by decide +kernel
theorem dX7_noLoads_0 : decode cX7_noLoads 0 = .ok (.iload_n 1, 1) := by decide +kernel
theorem dX7_noLoads_1 : decode cX7_noLoads 1 = .ok (.invokestatic 135, 3) := by decide +kernel
theorem dX7_noLoads_4 : decode cX7_noLoads 4 = .ok (.ifCond .ne 5, 3) := by decide +kernel
theorem dX7_noLoads_7 : decode cX7_noLoads 7 = .ok (.iconst (-1), 1) := by decide +kernel
theorem dX7_noLoads_8 : decode cX7_noLoads 8 = .ok (.ireturn, 1) := by decide +kernel
theorem dX7_noLoads_9 : decode cX7_noLoads 9 = .ok (.aload_n 0, 1) := by decide +kernel
theorem dX7_noLoads_10 : decode cX7_noLoads 10 = .ok (.getfield 26, 3) := by decide +kernel
theorem dX7_noLoads_13 : decode cX7_noLoads 13 = .ok (.iload_n 1, 1) := by decide +kernel
theorem dX7_noLoads_14 : decode cX7_noLoads 14 = .ok (.invokevirtual 141, 3) := by decide +kernel
theorem dX7_noLoads_17 : decode cX7_noLoads 17 = .ok (.ireturn, 1) := by decide +kernel
theorem dX7_shares_0 : decode cX7_shares 0 = .ok (.aload_n 0, 1) := by decide +kernel
theorem dX7_shares_1 : decode cX7_shares 1 = .ok (.iload_n 1, 1) := by decide +kernel
theorem dX7_shares_2 : decode cX7_shares 2 = .ok (.invokevirtual 144, 3) := by decide +kernel
theorem dX7_shares_5 : decode cX7_shares 5 = .ok (.istore_n 2, 1) := by decide +kernel
theorem dX7_shares_6 : decode cX7_shares 6 = .ok (.iload_n 2, 1) := by decide +kernel
theorem dX7_shares_7 : decode cX7_shares 7 = .ok (.ifCond .eq 5, 3) := by decide +kernel
theorem dX7_shares_10 : decode cX7_shares 10 = .ok (.iload_n 2, 1) := by decide +kernel
theorem dX7_shares_11 : decode cX7_shares 11 = .ok (.ireturn, 1) := by decide +kernel
theorem dX7_shares_12 : decode cX7_shares 12 = .ok (.aload_n 0, 1) := by decide +kernel
theorem dX7_shares_13 : decode cX7_shares 13 = .ok (.getfield 56, 3) := by decide +kernel
theorem dX7_shares_16 : decode cX7_shares 16 = .ok (.invokevirtual 147, 3) := by decide +kernel
theorem dX7_shares_19 : decode cX7_shares 19 = .ok (.aload_n 0, 1) := by decide +kernel
theorem dX7_shares_20 : decode cX7_shares 20 = .ok (.getfield 56, 3) := by decide +kernel
theorem dX7_shares_23 : decode cX7_shares 23 = .ok (.aload_n 0, 1) := by decide +kernel
theorem dX7_shares_24 : decode cX7_shares 24 = .ok (.getfield 35, 3) := by decide +kernel
theorem dX7_shares_27 : decode cX7_shares 27 = .ok (.getfield 149, 3) := by decide +kernel
theorem dX7_shares_30 : decode cX7_shares 30 = .ok (.aload_n 0, 1) := by decide +kernel
theorem dX7_shares_31 : decode cX7_shares 31 = .ok (.getfield 35, 3) := by decide +kernel
theorem dX7_shares_34 : decode cX7_shares 34 = .ok (.getfield 153, 3) := by decide +kernel
theorem dX7_shares_37 : decode cX7_shares 37 = .ok (.invokevirtual 156, 3) := by decide +kernel
theorem dX7_shares_40 : decode cX7_shares 40 = .ok (.aload_n 0, 1) := by decide +kernel
theorem dX7_shares_41 : decode cX7_shares 41 = .ok (.getfield 56, 3) := by decide +kernel
theorem dX7_shares_44 : decode cX7_shares 44 = .ok (.aload_n 0, 1) := by decide +kernel
theorem dX7_shares_45 : decode cX7_shares 45 = .ok (.getfield 35, 3) := by decide +kernel
theorem dX7_shares_48 : decode cX7_shares 48 = .ok (.getfield 159, 3) := by decide +kernel
theorem dX7_shares_51 : decode cX7_shares 51 = .ok (.aload_n 0, 1) := by decide +kernel
theorem dX7_shares_52 : decode cX7_shares 52 = .ok (.getfield 35, 3) := by decide +kernel
theorem dX7_shares_55 : decode cX7_shares 55 = .ok (.getfield 153, 3) := by decide +kernel
theorem dX7_shares_58 : decode cX7_shares 58 = .ok (.invokevirtual 156, 3) := by decide +kernel
theorem dX7_shares_61 : decode cX7_shares 61 = .ok (.aload_n 0, 1) := by decide +kernel
theorem dX7_shares_62 : decode cX7_shares 62 = .ok (.getfield 56, 3) := by decide +kernel
theorem dX7_shares_65 : decode cX7_shares 65 = .ok (.aload_n 0, 1) := by decide +kernel
theorem dX7_shares_66 : decode cX7_shares 66 = .ok (.getfield 35, 3) := by decide +kernel
theorem dX7_shares_69 : decode cX7_shares 69 = .ok (.getfield 162, 3) := by decide +kernel
theorem dX7_shares_72 : decode cX7_shares 72 = .ok (.aload_n 0, 1) := by decide +kernel
theorem dX7_shares_73 : decode cX7_shares 73 = .ok (.getfield 35, 3) := by decide +kernel
theorem dX7_shares_76 : decode cX7_shares 76 = .ok (.getfield 153, 3) := by decide +kernel
theorem dX7_shares_79 : decode cX7_shares 79 = .ok (.invokevirtual 156, 3) := by decide +kernel
theorem dX7_shares_82 : decode cX7_shares 82 = .ok (.iconst 0, 1) := by decide +kernel
theorem dX7_shares_83 : decode cX7_shares 83 = .ok (.istore_n 3, 1) := by decide +kernel
theorem dX7_shares_84 : decode cX7_shares 84 = .ok (.iload_n 3, 1) := by decide +kernel
theorem dX7_shares_85 : decode cX7_shares 85 = .ok (.aload_n 0, 1) := by decide +kernel
theorem dX7_shares_86 : decode cX7_shares 86 = .ok (.getfield 19, 3) := by decide +kernel
theorem dX7_shares_89 : decode cX7_shares 89 = .ok (.getfield 100, 3) := by decide +kernel
theorem dX7_shares_92 : decode cX7_shares 92 = .ok (.if_icmp .ge 46, 3) := by decide +kernel
theorem dX7_shares_95 : decode cX7_shares 95 = .ok (.aload_n 0, 1) := by decide +kernel
theorem dX7_shares_96 : decode cX7_shares 96 = .ok (.getfield 56, 3) := by decide +kernel
theorem dX7_shares_99 : decode cX7_shares 99 = .ok (.aload_n 0, 1) := by decide +kernel
theorem dX7_shares_100 : decode cX7_shares 100 = .ok (.getfield 19, 3) := by decide +kernel
theorem dX7_shares_103 : decode cX7_shares 103 = .ok (.iload_n 3, 1) := by decide +kernel
theorem dX7_shares_104 : decode cX7_shares 104 = .ok (.invokevirtual 109, 3) := by decide +kernel
theorem dX7_shares_107 : decode cX7_shares 107 = .ok (.ifCond .eq 14, 3) := by decide +kernel
theorem dX7_shares_110 : decode cX7_shares 110 = .ok (.aload_n 0, 1) := by decide +kernel
theorem dX7_shares_111 : decode cX7_shares 111 = .ok (.getfield 35, 3) := by decide +kernel
theorem dX7_shares_114 : decode cX7_shares 114 = .ok (.iload_n 3, 1) := by decide +kernel
theorem dX7_shares_115 : decode cX7_shares 115 = .ok (.invokevirtual 165, 3) := by decide +kernel
theorem dX7_shares_118 : decode cX7_shares 118 = .ok (.goto 4, 3) := by decide +kernel
theorem dX7_shares_121 : decode cX7_shares 121 = .ok (.lconst 0, 1) := by decide +kernel
theorem dX7_shares_122 : decode cX7_shares 122 = .ok (.aload_n 0, 1) := by decide +kernel
theorem dX7_shares_123 : decode cX7_shares 123 = .ok (.getfield 35, 3) := by decide +kernel
theorem dX7_shares_126 : decode cX7_shares 126 = .ok (.getfield 153, 3) := by decide +kernel
theorem dX7_shares_129 : decode cX7_shares 129 = .ok (.invokevirtual 156, 3) := by decide +kernel
theorem dX7_shares_132 : decode cX7_shares 132 = .ok (.iinc 3 1, 3) := by decide +kernel
theorem dX7_shares_135 : decode cX7_shares 135 = .ok (.goto (-51), 3) := by decide +kernel
theorem dX7_shares_138 : decode cX7_shares 138 = .ok (.iconst 0, 1) := by decide +kernel
theorem dX7_shares_139 : decode cX7_shares 139 = .ok (.ireturn, 1) := by decide +kernel
theorem dX7_over_0 : decode cX7_over 0 = .ok (.aload_n 0, 1) := by decide +kernel
theorem dX7_over_1 : decode cX7_over 1 = .ok (.iload_n 1, 1) := by decide +kernel
theorem dX7_over_2 : decode cX7_over 2 = .ok (.invokevirtual 144, 3) := by decide +kernel
theorem dX7_over_5 : decode cX7_over 5 = .ok (.istore_n 2, 1) := by decide +kernel
theorem dX7_over_6 : decode cX7_over 6 = .ok (.iload_n 2, 1) := by decide +kernel
theorem dX7_over_7 : decode cX7_over 7 = .ok (.ifCond .eq 5, 3) := by decide +kernel
theorem dX7_over_10 : decode cX7_over 10 = .ok (.iload_n 2, 1) := by decide +kernel
theorem dX7_over_11 : decode cX7_over 11 = .ok (.ireturn, 1) := by decide +kernel
theorem dX7_over_12 : decode cX7_over 12 = .ok (.aload_n 0, 1) := by decide +kernel
theorem dX7_over_13 : decode cX7_over 13 = .ok (.getfield 42, 3) := by decide +kernel
theorem dX7_over_16 : decode cX7_over 16 = .ok (.aload_n 0, 1) := by decide +kernel
theorem dX7_over_17 : decode cX7_over 17 = .ok (.getfield 12, 3) := by decide +kernel
theorem dX7_over_20 : decode cX7_over 20 = .ok (.aload_n 0, 1) := by decide +kernel
theorem dX7_over_21 : decode cX7_over 21 = .ok (.getfield 19, 3) := by decide +kernel
theorem dX7_over_24 : decode cX7_over 24 = .ok (.invokevirtual 169, 3) := by decide +kernel
theorem dX7_over_27 : decode cX7_over 27 = .ok (.aload_n 0, 1) := by decide +kernel
theorem dX7_over_28 : decode cX7_over 28 = .ok (.aload_n 0, 1) := by decide +kernel
theorem dX7_over_29 : decode cX7_over 29 = .ok (.getfield 19, 3) := by decide +kernel
theorem dX7_over_32 : decode cX7_over 32 = .ok (.getfield 173, 3) := by decide +kernel
theorem dX7_over_35 : decode cX7_over 35 = .ok (.invokevirtual 176, 3) := by decide +kernel
theorem dX7_over_38 : decode cX7_over 38 = .ok (.ireturn, 1) := by decide +kernel
theorem dX7_end_0 : decode cX7_end 0 = .ok (.aload_n 0, 1) := by decide +kernel
theorem dX7_end_1 : decode cX7_end 1 = .ok (.iload_n 1, 1) := by decide +kernel
theorem dX7_end_2 : decode cX7_end 2 = .ok (.invokevirtual 144, 3) := by decide +kernel
theorem dX7_end_5 : decode cX7_end 5 = .ok (.istore_n 2, 1) := by decide +kernel
theorem dX7_end_6 : decode cX7_end 6 = .ok (.iload_n 2, 1) := by decide +kernel
theorem dX7_end_7 : decode cX7_end 7 = .ok (.ifCond .eq 5, 3) := by decide +kernel
theorem dX7_end_10 : decode cX7_end 10 = .ok (.iload_n 2, 1) := by decide +kernel
theorem dX7_end_11 : decode cX7_end 11 = .ok (.ireturn, 1) := by decide +kernel
theorem dX7_end_12 : decode cX7_end 12 = .ok (.aload_n 0, 1) := by decide +kernel
theorem dX7_end_13 : decode cX7_end 13 = .ok (.getfield 42, 3) := by decide +kernel
theorem dX7_end_16 : decode cX7_end 16 = .ok (.aload_n 0, 1) := by decide +kernel
theorem dX7_end_17 : decode cX7_end 17 = .ok (.getfield 12, 3) := by decide +kernel
theorem dX7_end_20 : decode cX7_end 20 = .ok (.aload_n 0, 1) := by decide +kernel
theorem dX7_end_21 : decode cX7_end 21 = .ok (.getfield 19, 3) := by decide +kernel
theorem dX7_end_24 : decode cX7_end 24 = .ok (.invokevirtual 169, 3) := by decide +kernel
theorem dX7_end_27 : decode cX7_end 27 = .ok (.bipush (-4), 2) := by decide +kernel
theorem dX7_end_29 : decode cX7_end 29 = .ok (.istore_n 3, 1) := by decide +kernel
theorem dX7_end_30 : decode cX7_end 30 = .ok (.iconst 0, 1) := by decide +kernel
theorem dX7_end_31 : decode cX7_end 31 = .ok (.istore 4, 2) := by decide +kernel
theorem dX7_end_33 : decode cX7_end 33 = .ok (.iload 4, 2) := by decide +kernel
theorem dX7_end_35 : decode cX7_end 35 = .ok (.aload_n 0, 1) := by decide +kernel
theorem dX7_end_36 : decode cX7_end 36 = .ok (.getfield 19, 3) := by decide +kernel
theorem dX7_end_39 : decode cX7_end 39 = .ok (.getfield 100, 3) := by decide +kernel
theorem dX7_end_42 : decode cX7_end 42 = .ok (.if_icmp .ge 54, 3) := by decide +kernel
theorem dX7_end_45 : decode cX7_end 45 = .ok (.aload_n 0, 1) := by decide +kernel
theorem dX7_end_46 : decode cX7_end 46 = .ok (.getfield 19, 3) := by decide +kernel
theorem dX7_end_49 : decode cX7_end 49 = .ok (.iload 4, 2) := by decide +kernel
theorem dX7_end_51 : decode cX7_end 51 = .ok (.invokevirtual 109, 3) := by decide +kernel
theorem dX7_end_54 : decode cX7_end 54 = .ok (.ifCond .eq 36, 3) := by decide +kernel
theorem dX7_end_57 : decode cX7_end 57 = .ok (.aload_n 0, 1) := by decide +kernel
theorem dX7_end_58 : decode cX7_end 58 = .ok (.getfield 35, 3) := by decide +kernel
theorem dX7_end_61 : decode cX7_end 61 = .ok (.iload 4, 2) := by decide +kernel
theorem dX7_end_63 : decode cX7_end 63 = .ok (.invokevirtual 165, 3) := by decide +kernel
theorem dX7_end_66 : decode cX7_end 66 = .ok (.lconst 0, 1) := by decide +kernel
theorem dX7_end_67 : decode cX7_end 67 = .ok (.lcmp, 1) := by decide +kernel
theorem dX7_end_68 : decode cX7_end 68 = .ok (.ifCond .eq 22, 3) := by decide +kernel
theorem dX7_end_71 : decode cX7_end 71 = .ok (.iload_n 3, 1) := by decide +kernel
theorem dX7_end_72 : decode cX7_end 72 = .ok (.bipush (-4), 2) := by decide +kernel
theorem dX7_end_74 : decode cX7_end 74 = .ok (.if_icmp .eq 13, 3) := by decide +kernel
theorem dX7_end_77 : decode cX7_end 77 = .ok (.aload_n 0, 1) := by decide +kernel
theorem dX7_end_78 : decode cX7_end 78 = .ok (.iload 4, 2) := by decide +kernel
theorem dX7_end_80 : decode cX7_end 80 = .ok (.iload_n 3, 1) := by decide +kernel
theorem dX7_end_81 : decode cX7_end 81 = .ok (.invokevirtual 179, 3) := by decide +kernel
theorem dX7_end_84 : decode cX7_end 84 = .ok (.ifCond .eq 6, 3) := by decide +kernel
theorem dX7_end_87 : decode cX7_end 87 = .ok (.iload 4, 2) := by decide +kernel
theorem dX7_end_89 : decode cX7_end 89 = .ok (.istore_n 3, 1) := by decide +kernel
theorem dX7_end_90 : decode cX7_end 90 = .ok (.iinc 4 1, 3) := by decide +kernel
theorem dX7_end_93 : decode cX7_end 93 = .ok (.goto (-60), 3) := by decide +kernel
theorem dX7_end_96 : decode cX7_end 96 = .ok (.iload_n 3, 1) := by decide +kernel
theorem dX7_end_97 : decode cX7_end 97 = .ok (.bipush (-4), 2) := by decide +kernel
theorem dX7_end_99 : decode cX7_end 99 = .ok (.if_icmp .ne 6, 3) := by decide +kernel
theorem dX7_end_102 : decode cX7_end 102 = .ok (.bipush (-4), 2) := by decide +kernel
theorem dX7_end_104 : decode cX7_end 104 = .ok (.ireturn, 1) := by decide +kernel
theorem dX7_end_105 : decode cX7_end 105 = .ok (.aload_n 0, 1) := by decide +kernel
theorem dX7_end_106 : decode cX7_end 106 = .ok (.getfield 35, 3) := by decide +kernel
theorem dX7_end_109 : decode cX7_end 109 = .ok (.iload_n 3, 1) := by decide +kernel
theorem dX7_end_110 : decode cX7_end 110 = .ok (.invokevirtual 165, 3) := by decide +kernel
theorem dX7_end_113 : decode cX7_end 113 = .ok (.lstore 4, 2) := by decide +kernel
theorem dX7_end_115 : decode cX7_end 115 = .ok (.aload_n 0, 1) := by decide +kernel
theorem dX7_end_116 : decode cX7_end 116 = .ok (.getfield 56, 3) := by decide +kernel
theorem dX7_end_119 : decode cX7_end 119 = .ok (.invokevirtual 147, 3) := by decide +kernel
theorem dX7_end_122 : decode cX7_end 122 = .ok (.aload_n 0, 1) := by decide +kernel
theorem dX7_end_123 : decode cX7_end 123 = .ok (.getfield 56, 3) := by decide +kernel
theorem dX7_end_126 : decode cX7_end 126 = .ok (.aload_n 0, 1) := by decide +kernel
theorem dX7_end_127 : decode cX7_end 127 = .ok (.getfield 42, 3) := by decide +kernel
theorem dX7_end_130 : decode cX7_end 130 = .ok (.iload_n 3, 1) := by decide +kernel
theorem dX7_end_131 : decode cX7_end 131 = .ok (.lload 4, 2) := by decide +kernel
theorem dX7_end_133 : decode cX7_end 133 = .ok (.invokevirtual 182, 3) := by decide +kernel
theorem dX7_end_136 : decode cX7_end 136 = .ok (.aload_n 0, 1) := by decide +kernel
theorem dX7_end_137 : decode cX7_end 137 = .ok (.getfield 35, 3) := by decide +kernel
theorem dX7_end_140 : decode cX7_end 140 = .ok (.getfield 153, 3) := by decide +kernel
theorem dX7_end_143 : decode cX7_end 143 = .ok (.lmul, 1) := by decide +kernel
theorem dX7_end_144 : decode cX7_end 144 = .ok (.lload 4, 2) := by decide +kernel
theorem dX7_end_146 : decode cX7_end 146 = .ok (.invokestatic 186, 3) := by decide +kernel
theorem dX7_end_149 : decode cX7_end 149 = .ok (.invokevirtual 156, 3) := by decide +kernel
theorem dX7_end_152 : decode cX7_end 152 = .ok (.iload_n 3, 1) := by decide +kernel
theorem dX7_end_153 : decode cX7_end 153 = .ok (.ireturn, 1) := by decide +kernel
theorem dX7_least_0 : decode cX7_least 0 = .ok (.aload_n 0, 1) := by decide +kernel
theorem dX7_least_1 : decode cX7_least 1 = .ok (.getfield 19, 3) := by decide +kernel
theorem dX7_least_4 : decode cX7_least 4 = .ok (.getfield 173, 3) := by decide +kernel
theorem dX7_least_7 : decode cX7_least 7 = .ok (.istore_n 1, 1) := by decide +kernel
theorem dX7_least_8 : decode cX7_least 8 = .ok (.iload_n 1, 1) := by decide +kernel
theorem dX7_least_9 : decode cX7_least 9 = .ok (.invokestatic 192, 3) := by decide +kernel
theorem dX7_least_12 : decode cX7_least 12 = .ok (.bipush 10, 2) := by decide +kernel
theorem dX7_least_14 : decode cX7_least 14 = .ok (.if_icmp .le 6, 3) := by decide +kernel
theorem dX7_least_17 : decode cX7_least 17 = .ok (.bipush (-2), 2) := by decide +kernel
theorem dX7_least_19 : decode cX7_least 19 = .ok (.ireturn, 1) := by decide +kernel
theorem dX7_least_20 : decode cX7_least 20 = .ok (.aload_n 0, 1) := by decide +kernel
theorem dX7_least_21 : decode cX7_least 21 = .ok (.getfield 42, 3) := by decide +kernel
theorem dX7_least_24 : decode cX7_least 24 = .ok (.aload_n 0, 1) := by decide +kernel
theorem dX7_least_25 : decode cX7_least 25 = .ok (.getfield 12, 3) := by decide +kernel
theorem dX7_least_28 : decode cX7_least 28 = .ok (.aload_n 0, 1) := by decide +kernel
theorem dX7_least_29 : decode cX7_least 29 = .ok (.getfield 19, 3) := by decide +kernel
theorem dX7_least_32 : decode cX7_least 32 = .ok (.invokevirtual 169, 3) := by decide +kernel
theorem dX7_least_35 : decode cX7_least 35 = .ok (.aload_n 0, 1) := by decide +kernel
theorem dX7_least_36 : decode cX7_least 36 = .ok (.getfield 42, 3) := by decide +kernel
theorem dX7_least_39 : decode cX7_least 39 = .ok (.aload_n 0, 1) := by decide +kernel
theorem dX7_least_40 : decode cX7_least 40 = .ok (.getfield 19, 3) := by decide +kernel
theorem dX7_least_43 : decode cX7_least 43 = .ok (.aload_n 0, 1) := by decide +kernel
theorem dX7_least_44 : decode cX7_least 44 = .ok (.getfield 60, 3) := by decide +kernel
theorem dX7_least_47 : decode cX7_least 47 = .ok (.invokevirtual 197, 3) := by decide +kernel
theorem dX7_least_50 : decode cX7_least 50 = .ok (.iconst 1, 1) := by decide +kernel
theorem dX7_least_51 : decode cX7_least 51 = .ok (.iload_n 1, 1) := by decide +kernel
theorem dX7_least_52 : decode cX7_least 52 = .ok (.invokestatic 192, 3) := by decide +kernel
theorem dX7_least_55 : decode cX7_least 55 = .ok (.ishl, 1) := by decide +kernel
theorem dX7_least_56 : decode cX7_least 56 = .ok (.istore_n 2, 1) := by decide +kernel
theorem dX7_least_57 : decode cX7_least 57 = .ok (.bipush (-4), 2) := by decide +kernel
theorem dX7_least_59 : decode cX7_least 59 = .ok (.istore_n 3, 1) := by decide +kernel
theorem dX7_least_60 : decode cX7_least 60 = .ok (.bipush 13, 2) := by decide +kernel
theorem dX7_least_62 : decode cX7_least 62 = .ok (.istore 4, 2) := by decide +kernel
theorem dX7_least_64 : decode cX7_least 64 = .ok (.iconst 0, 1) := by decide +kernel
theorem dX7_least_65 : decode cX7_least 65 = .ok (.istore 5, 2) := by decide +kernel
theorem dX7_least_67 : decode cX7_least 67 = .ok (.iconst 1, 1) := by decide +kernel
theorem dX7_least_68 : decode cX7_least 68 = .ok (.istore 6, 2) := by decide +kernel
theorem dX7_least_70 : decode cX7_least 70 = .ok (.iload 6, 2) := by decide +kernel
theorem dX7_least_72 : decode cX7_least 72 = .ok (.iload_n 2, 1) := by decide +kernel
theorem dX7_least_73 : decode cX7_least 73 = .ok (.if_icmp .ge 47, 3) := by decide +kernel
theorem dX7_least_76 : decode cX7_least 76 = .ok (.iload 5, 2) := by decide +kernel
theorem dX7_least_78 : decode cX7_least 78 = .ok (.iload_n 1, 1) := by decide +kernel
theorem dX7_least_79 : decode cX7_least 79 = .ok (.isub, 1) := by decide +kernel
theorem dX7_least_80 : decode cX7_least 80 = .ok (.iload_n 1, 1) := by decide +kernel
theorem dX7_least_81 : decode cX7_least 81 = .ok (.iand, 1) := by decide +kernel
theorem dX7_least_82 : decode cX7_least 82 = .ok (.istore 5, 2) := by decide +kernel
theorem dX7_least_84 : decode cX7_least 84 = .ok (.iload 5, 2) := by decide +kernel
theorem dX7_least_86 : decode cX7_least 86 = .ok (.invokestatic 192, 3) := by decide +kernel
theorem dX7_least_89 : decode cX7_least 89 = .ok (.istore 7, 2) := by decide +kernel
theorem dX7_least_91 : decode cX7_least 91 = .ok (.iload 7, 2) := by decide +kernel
theorem dX7_least_93 : decode cX7_least 93 = .ok (.iload 4, 2) := by decide +kernel
theorem dX7_least_95 : decode cX7_least 95 = .ok (.if_icmp .ge 19, 3) := by decide +kernel
theorem dX7_least_98 : decode cX7_least 98 = .ok (.aload_n 0, 1) := by decide +kernel
theorem dX7_least_99 : decode cX7_least 99 = .ok (.iload 5, 2) := by decide +kernel
theorem dX7_least_101 : decode cX7_least 101 = .ok (.invokevirtual 201, 3) := by decide +kernel
theorem dX7_least_104 : decode cX7_least 104 = .ok (.ifCond .eq 10, 3) := by decide +kernel
theorem dX7_least_107 : decode cX7_least 107 = .ok (.iload 5, 2) := by decide +kernel
theorem dX7_least_109 : decode cX7_least 109 = .ok (.istore_n 3, 1) := by decide +kernel
theorem dX7_least_110 : decode cX7_least 110 = .ok (.iload 7, 2) := by decide +kernel
theorem dX7_least_112 : decode cX7_least 112 = .ok (.istore 4, 2) := by decide +kernel
theorem dX7_least_114 : decode cX7_least 114 = .ok (.iinc 6 1, 3) := by decide +kernel
theorem dX7_least_117 : decode cX7_least 117 = .ok (.goto (-47), 3) := by decide +kernel
theorem dX7_least_120 : decode cX7_least 120 = .ok (.iload_n 3, 1) := by decide +kernel
theorem dX7_least_121 : decode cX7_least 121 = .ok (.ireturn, 1) := by decide +kernel
theorem dX7_drive_0 : decode cX7_drive 0 = .ok (.aload_n 0, 1) := by decide +kernel
theorem dX7_drive_1 : decode cX7_drive 1 = .ok (.getfield 19, 3) := by decide +kernel
theorem dX7_drive_4 : decode cX7_drive 4 = .ok (.iload_n 1, 1) := by decide +kernel
theorem dX7_drive_5 : decode cX7_drive 5 = .ok (.invokevirtual 104, 3) := by decide +kernel
theorem dX7_drive_8 : decode cX7_drive 8 = .ok (.ifCond .eq 25, 3) := by decide +kernel
theorem dX7_drive_11 : decode cX7_drive 11 = .ok (.iload_n 2, 1) := by decide +kernel
theorem dX7_drive_12 : decode cX7_drive 12 = .ok (.iconst 1, 1) := by decide +kernel
theorem dX7_drive_13 : decode cX7_drive 13 = .ok (.sipush 10000, 3) := by decide +kernel
theorem dX7_drive_16 : decode cX7_drive 16 = .ok (.invokestatic 64, 3) := by decide +kernel
theorem dX7_drive_19 : decode cX7_drive 19 = .ok (.ifCond .eq 14, 3) := by decide +kernel
theorem dX7_drive_22 : decode cX7_drive 22 = .ok (.iload_n 3, 1) := by decide +kernel
theorem dX7_drive_23 : decode cX7_drive 23 = .ok (.iconst 1, 1) := by decide +kernel
theorem dX7_drive_24 : decode cX7_drive 24 = .ok (.sipush 200, 3) := by decide +kernel
theorem dX7_drive_27 : decode cX7_drive 27 = .ok (.invokestatic 64, 3) := by decide +kernel
theorem dX7_drive_30 : decode cX7_drive 30 = .ok (.ifCond .ne 5, 3) := by decide +kernel
theorem dX7_drive_33 : decode cX7_drive 33 = .ok (.iconst (-1), 1) := by decide +kernel
theorem dX7_drive_34 : decode cX7_drive 34 = .ok (.ireturn, 1) := by decide +kernel
theorem dX7_drive_35 : decode cX7_drive 35 = .ok (.aload_n 0, 1) := by decide +kernel
theorem dX7_drive_36 : decode cX7_drive 36 = .ok (.getfield 49, 3) := by decide +kernel
theorem dX7_drive_39 : decode cX7_drive 39 = .ok (.aload_n 0, 1) := by decide +kernel
theorem dX7_drive_40 : decode cX7_drive 40 = .ok (.getfield 12, 3) := by decide +kernel
theorem dX7_drive_43 : decode cX7_drive 43 = .ok (.aload_n 0, 1) := by decide +kernel
theorem dX7_drive_44 : decode cX7_drive 44 = .ok (.getfield 19, 3) := by decide +kernel
theorem dX7_drive_47 : decode cX7_drive 47 = .ok (.getfield 123, 3) := by decide +kernel
theorem dX7_drive_50 : decode cX7_drive 50 = .ok (.iload_n 1, 1) := by decide +kernel
theorem dX7_drive_51 : decode cX7_drive 51 = .ok (.iaload, 1) := by decide +kernel
theorem dX7_drive_52 : decode cX7_drive 52 = .ok (.iload_n 2, 1) := by decide +kernel
theorem dX7_drive_53 : decode cX7_drive 53 = .ok (.iload_n 3, 1) := by decide +kernel
theorem dX7_drive_54 : decode cX7_drive 54 = .ok (.invokevirtual 204, 3) := by decide +kernel
theorem dX7_drive_57 : decode cX7_drive 57 = .ok (.aload_n 0, 1) := by decide +kernel
theorem dX7_drive_58 : decode cX7_drive 58 = .ok (.getfield 56, 3) := by decide +kernel
theorem dX7_drive_61 : decode cX7_drive 61 = .ok (.invokevirtual 147, 3) := by decide +kernel
theorem dX7_drive_64 : decode cX7_drive 64 = .ok (.aload_n 0, 1) := by decide +kernel
theorem dX7_drive_65 : decode cX7_drive 65 = .ok (.getfield 56, 3) := by decide +kernel
theorem dX7_drive_68 : decode cX7_drive 68 = .ok (.aload_n 0, 1) := by decide +kernel
theorem dX7_drive_69 : decode cX7_drive 69 = .ok (.getfield 49, 3) := by decide +kernel
theorem dX7_drive_72 : decode cX7_drive 72 = .ok (.getfield 208, 3) := by decide +kernel
theorem dX7_drive_75 : decode cX7_drive 75 = .ok (.i2l, 1) := by decide +kernel
theorem dX7_drive_76 : decode cX7_drive 76 = .ok (.lconst 1, 1) := by decide +kernel
theorem dX7_drive_77 : decode cX7_drive 77 = .ok (.invokevirtual 156, 3) := by decide +kernel
theorem dX7_drive_80 : decode cX7_drive 80 = .ok (.aload_n 0, 1) := by decide +kernel
theorem dX7_drive_81 : decode cX7_drive 81 = .ok (.getfield 56, 3) := by decide +kernel
theorem dX7_drive_84 : decode cX7_drive 84 = .ok (.aload_n 0, 1) := by decide +kernel
theorem dX7_drive_85 : decode cX7_drive 85 = .ok (.getfield 49, 3) := by decide +kernel
theorem dX7_drive_88 : decode cX7_drive 88 = .ok (.getfield 211, 3) := by decide +kernel
theorem dX7_drive_91 : decode cX7_drive 91 = .ok (.i2l, 1) := by decide +kernel
theorem dX7_drive_92 : decode cX7_drive 92 = .ok (.lconst 1, 1) := by decide +kernel
theorem dX7_drive_93 : decode cX7_drive 93 = .ok (.invokevirtual 156, 3) := by decide +kernel
theorem dX7_drive_96 : decode cX7_drive 96 = .ok (.aload_n 0, 1) := by decide +kernel
theorem dX7_drive_97 : decode cX7_drive 97 = .ok (.getfield 56, 3) := by decide +kernel
theorem dX7_drive_100 : decode cX7_drive 100 = .ok (.aload_n 0, 1) := by decide +kernel
theorem dX7_drive_101 : decode cX7_drive 101 = .ok (.getfield 49, 3) := by decide +kernel
theorem dX7_drive_104 : decode cX7_drive 104 = .ok (.getfield 214, 3) := by decide +kernel
theorem dX7_drive_107 : decode cX7_drive 107 = .ok (.i2l, 1) := by decide +kernel
theorem dX7_drive_108 : decode cX7_drive 108 = .ok (.lconst 1, 1) := by decide +kernel
theorem dX7_drive_109 : decode cX7_drive 109 = .ok (.invokevirtual 156, 3) := by decide +kernel
theorem dX7_drive_112 : decode cX7_drive 112 = .ok (.aload_n 0, 1) := by decide +kernel
theorem dX7_drive_113 : decode cX7_drive 113 = .ok (.getfield 56, 3) := by decide +kernel
theorem dX7_drive_116 : decode cX7_drive 116 = .ok (.aload_n 0, 1) := by decide +kernel
theorem dX7_drive_117 : decode cX7_drive 117 = .ok (.getfield 49, 3) := by decide +kernel
theorem dX7_drive_120 : decode cX7_drive 120 = .ok (.getfield 217, 3) := by decide +kernel
theorem dX7_drive_123 : decode cX7_drive 123 = .ok (.i2l, 1) := by decide +kernel
theorem dX7_drive_124 : decode cX7_drive 124 = .ok (.lconst 1, 1) := by decide +kernel
theorem dX7_drive_125 : decode cX7_drive 125 = .ok (.invokevirtual 156, 3) := by decide +kernel
theorem dX7_drive_128 : decode cX7_drive 128 = .ok (.aload_n 0, 1) := by decide +kernel
theorem dX7_drive_129 : decode cX7_drive 129 = .ok (.getfield 49, 3) := by decide +kernel
theorem dX7_drive_132 : decode cX7_drive 132 = .ok (.getfield 220, 3) := by decide +kernel
theorem dX7_drive_135 : decode cX7_drive 135 = .ok (.ireturn, 1) := by decide +kernel
theorem dX7_drag_0 : decode cX7_drag 0 = .ok (.aload_n 0, 1) := by decide +kernel
theorem dX7_drag_1 : decode cX7_drag 1 = .ok (.getfield 19, 3) := by decide +kernel
theorem dX7_drag_4 : decode cX7_drag 4 = .ok (.iload_n 1, 1) := by decide +kernel
theorem dX7_drag_5 : decode cX7_drag 5 = .ok (.invokevirtual 104, 3) := by decide +kernel
theorem dX7_drag_8 : decode cX7_drag 8 = .ok (.ifCond .eq 13, 3) := by decide +kernel
theorem dX7_drag_11 : decode cX7_drag 11 = .ok (.iload_n 2, 1) := by decide +kernel
theorem dX7_drag_12 : decode cX7_drag 12 = .ok (.iconst 0, 1) := by decide +kernel
theorem dX7_drag_13 : decode cX7_drag 13 = .ok (.ldc 223, 2) := by decide +kernel
theorem dX7_drag_15 : decode cX7_drag 15 = .ok (.invokestatic 64, 3) := by decide +kernel
theorem dX7_drag_18 : decode cX7_drag 18 = .ok (.ifCond .ne 5, 3) := by decide +kernel
theorem dX7_drag_21 : decode cX7_drag 21 = .ok (.iconst (-1), 1) := by decide +kernel
theorem dX7_drag_22 : decode cX7_drag 22 = .ok (.ireturn, 1) := by decide +kernel
theorem dX7_drag_23 : decode cX7_drag 23 = .ok (.aload_n 0, 1) := by decide +kernel
theorem dX7_drag_24 : decode cX7_drag 24 = .ok (.getfield 19, 3) := by decide +kernel
theorem dX7_drag_27 : decode cX7_drag 27 = .ok (.getfield 123, 3) := by decide +kernel
theorem dX7_drag_30 : decode cX7_drag 30 = .ok (.iload_n 1, 1) := by decide +kernel
theorem dX7_drag_31 : decode cX7_drag 31 = .ok (.iaload, 1) := by decide +kernel
theorem dX7_drag_32 : decode cX7_drag 32 = .ok (.istore_n 3, 1) := by decide +kernel
theorem dX7_drag_33 : decode cX7_drag 33 = .ok (.aload_n 0, 1) := by decide +kernel
theorem dX7_drag_34 : decode cX7_drag 34 = .ok (.getfield 12, 3) := by decide +kernel
theorem dX7_drag_37 : decode cX7_drag 37 = .ok (.iload_n 3, 1) := by decide +kernel
theorem dX7_drag_38 : decode cX7_drag 38 = .ok (.invokevirtual 129, 3) := by decide +kernel
theorem dX7_drag_41 : decode cX7_drag 41 = .ok (.istore 4, 2) := by decide +kernel
theorem dX7_drag_43 : decode cX7_drag 43 = .ok (.aload_n 0, 1) := by decide +kernel
theorem dX7_drag_44 : decode cX7_drag 44 = .ok (.getfield 12, 3) := by decide +kernel
theorem dX7_drag_47 : decode cX7_drag 47 = .ok (.iload_n 3, 1) := by decide +kernel
theorem dX7_drag_48 : decode cX7_drag 48 = .ok (.invokevirtual 224, 3) := by decide +kernel
theorem dX7_drag_51 : decode cX7_drag 51 = .ok (.istore 5, 2) := by decide +kernel
theorem dX7_drag_53 : decode cX7_drag 53 = .ok (.iload_n 2, 1) := by decide +kernel
theorem dX7_drag_54 : decode cX7_drag 54 = .ok (.iload 4, 2) := by decide +kernel
theorem dX7_drag_56 : decode cX7_drag 56 = .ok (.iload 5, 2) := by decide +kernel
theorem dX7_drag_58 : decode cX7_drag 58 = .ok (.iadd, 1) := by decide +kernel
theorem dX7_drag_59 : decode cX7_drag 59 = .ok (.if_icmp .le 6, 3) := by decide +kernel
theorem dX7_drag_62 : decode cX7_drag 62 = .ok (.bipush (-4), 2) := by decide +kernel
theorem dX7_drag_64 : decode cX7_drag 64 = .ok (.ireturn, 1) := by decide +kernel
theorem dX7_drag_65 : decode cX7_drag 65 = .ok (.aload_n 0, 1) := by decide +kernel
theorem dX7_drag_66 : decode cX7_drag 66 = .ok (.getfield 56, 3) := by decide +kernel
theorem dX7_drag_69 : decode cX7_drag 69 = .ok (.invokevirtual 147, 3) := by decide +kernel
theorem dX7_drag_72 : decode cX7_drag 72 = .ok (.iload_n 2, 1) := by decide +kernel
theorem dX7_drag_73 : decode cX7_drag 73 = .ok (.iload 4, 2) := by decide +kernel
theorem dX7_drag_75 : decode cX7_drag 75 = .ok (.iadd, 1) := by decide +kernel
theorem dX7_drag_76 : decode cX7_drag 76 = .ok (.iload 5, 2) := by decide +kernel
theorem dX7_drag_78 : decode cX7_drag 78 = .ok (.if_icmp .ge 29, 3) := by decide +kernel
theorem dX7_drag_81 : decode cX7_drag 81 = .ok (.aload_n 0, 1) := by decide +kernel
theorem dX7_drag_82 : decode cX7_drag 82 = .ok (.getfield 56, 3) := by decide +kernel
theorem dX7_drag_85 : decode cX7_drag 85 = .ok (.iload_n 3, 1) := by decide +kernel
theorem dX7_drag_86 : decode cX7_drag 86 = .ok (.i2l, 1) := by decide +kernel
theorem dX7_drag_87 : decode cX7_drag 87 = .ok (.lconst 1, 1) := by decide +kernel
theorem dX7_drag_88 : decode cX7_drag 88 = .ok (.invokevirtual 156, 3) := by decide +kernel
theorem dX7_drag_91 : decode cX7_drag 91 = .ok (.aload_n 0, 1) := by decide +kernel
theorem dX7_drag_92 : decode cX7_drag 92 = .ok (.getfield 56, 3) := by decide +kernel
theorem dX7_drag_95 : decode cX7_drag 95 = .ok (.iload_n 2, 1) := by decide +kernel
theorem dX7_drag_96 : decode cX7_drag 96 = .ok (.iload 4, 2) := by decide +kernel
theorem dX7_drag_98 : decode cX7_drag 98 = .ok (.iadd, 1) := by decide +kernel
theorem dX7_drag_99 : decode cX7_drag 99 = .ok (.i2l, 1) := by decide +kernel
theorem dX7_drag_100 : decode cX7_drag 100 = .ok (.lconst 1, 1) := by decide +kernel
theorem dX7_drag_101 : decode cX7_drag 101 = .ok (.invokevirtual 156, 3) := by decide +kernel
theorem dX7_drag_104 : decode cX7_drag 104 = .ok (.goto 36, 3) := by decide +kernel
theorem dX7_drag_107 : decode cX7_drag 107 = .ok (.iload 4, 2) := by decide +kernel
theorem dX7_drag_109 : decode cX7_drag 109 = .ok (.iload 5, 2) := by decide +kernel
theorem dX7_drag_111 : decode cX7_drag 111 = .ok (.iadd, 1) := by decide +kernel
theorem dX7_drag_112 : decode cX7_drag 112 = .ok (.iload_n 2, 1) := by decide +kernel
theorem dX7_drag_113 : decode cX7_drag 113 = .ok (.isub, 1) := by decide +kernel
theorem dX7_drag_114 : decode cX7_drag 114 = .ok (.istore 6, 2) := by decide +kernel
theorem dX7_drag_116 : decode cX7_drag 116 = .ok (.aload_n 0, 1) := by decide +kernel
theorem dX7_drag_117 : decode cX7_drag 117 = .ok (.iload_n 3, 1) := by decide +kernel
theorem dX7_drag_118 : decode cX7_drag 118 = .ok (.iload 6, 2) := by decide +kernel
theorem dX7_drag_120 : decode cX7_drag 120 = .ok (.invokevirtual 227, 3) := by decide +kernel
theorem dX7_drag_123 : decode cX7_drag 123 = .ok (.aload_n 0, 1) := by decide +kernel
theorem dX7_drag_124 : decode cX7_drag 124 = .ok (.getfield 56, 3) := by decide +kernel
theorem dX7_drag_127 : decode cX7_drag 127 = .ok (.iconst 2, 1) := by decide +kernel
theorem dX7_drag_128 : decode cX7_drag 128 = .ok (.iload_n 2, 1) := by decide +kernel
theorem dX7_drag_129 : decode cX7_drag 129 = .ok (.imul, 1) := by decide +kernel
theorem dX7_drag_130 : decode cX7_drag 130 = .ok (.iload 6, 2) := by decide +kernel
theorem dX7_drag_132 : decode cX7_drag 132 = .ok (.iadd, 1) := by decide +kernel
theorem dX7_drag_133 : decode cX7_drag 133 = .ok (.i2l, 1) := by decide +kernel
theorem dX7_drag_134 : decode cX7_drag 134 = .ok (.ldc2_w 231, 3) := by decide +kernel
theorem dX7_drag_137 : decode cX7_drag 137 = .ok (.invokevirtual 156, 3) := by decide +kernel
theorem dX7_drag_140 : decode cX7_drag 140 = .ok (.iconst 0, 1) := by decide +kernel
theorem dX7_drag_141 : decode cX7_drag 141 = .ok (.ireturn, 1) := by decide +kernel
theorem dX7_number_0 : decode cX7_number 0 = .ok (.iload_n 1, 1) := by decide +kernel
theorem dX7_number_1 : decode cX7_number 1 = .ok (.ifCond .lt 12, 3) := by decide +kernel
theorem dX7_number_4 : decode cX7_number 4 = .ok (.iload_n 2, 1) := by decide +kernel
theorem dX7_number_5 : decode cX7_number 5 = .ok (.iconst 0, 1) := by decide +kernel
theorem dX7_number_6 : decode cX7_number 6 = .ok (.iconst 1, 1) := by decide +kernel
theorem dX7_number_7 : decode cX7_number 7 = .ok (.invokestatic 64, 3) := by decide +kernel
theorem dX7_number_10 : decode cX7_number 10 = .ok (.ifCond .ne 7, 3) := by decide +kernel
theorem dX7_number_13 : decode cX7_number 13 = .ok (.ldc2_w 233, 3) := by decide +kernel
theorem dX7_number_16 : decode cX7_number 16 = .ok (.lreturn, 1) := by decide +kernel
theorem dX7_number_17 : decode cX7_number 17 = .ok (.iload_n 1, 1) := by decide +kernel
theorem dX7_number_18 : decode cX7_number 18 = .ok (.aload_n 0, 1) := by decide +kernel
theorem dX7_number_19 : decode cX7_number 19 = .ok (.getfield 56, 3) := by decide +kernel
theorem dX7_number_22 : decode cX7_number 22 = .ok (.getfield 235, 3) := by decide +kernel
theorem dX7_number_25 : decode cX7_number 25 = .ok (.if_icmp .lt 7, 3) := by decide +kernel
theorem dX7_number_28 : decode cX7_number 28 = .ok (.ldc2_w 236, 3) := by decide +kernel
theorem dX7_number_31 : decode cX7_number 31 = .ok (.lreturn, 1) := by decide +kernel
theorem dX7_number_32 : decode cX7_number 32 = .ok (.iload_n 2, 1) := by decide +kernel
theorem dX7_number_33 : decode cX7_number 33 = .ok (.ifCond .ne 15, 3) := by decide +kernel
theorem dX7_number_36 : decode cX7_number 36 = .ok (.aload_n 0, 1) := by decide +kernel
theorem dX7_number_37 : decode cX7_number 37 = .ok (.getfield 56, 3) := by decide +kernel
theorem dX7_number_40 : decode cX7_number 40 = .ok (.getfield 238, 3) := by decide +kernel
theorem dX7_number_43 : decode cX7_number 43 = .ok (.iload_n 1, 1) := by decide +kernel
theorem dX7_number_44 : decode cX7_number 44 = .ok (.laload, 1) := by decide +kernel
theorem dX7_number_45 : decode cX7_number 45 = .ok (.goto 12, 3) := by decide +kernel
theorem dX7_number_48 : decode cX7_number 48 = .ok (.aload_n 0, 1) := by decide +kernel
theorem dX7_number_49 : decode cX7_number 49 = .ok (.getfield 56, 3) := by decide +kernel
theorem dX7_number_52 : decode cX7_number 52 = .ok (.getfield 242, 3) := by decide +kernel
theorem dX7_number_55 : decode cX7_number 55 = .ok (.iload_n 1, 1) := by decide +kernel
theorem dX7_number_56 : decode cX7_number 56 = .ok (.laload, 1) := by decide +kernel
theorem dX7_number_57 : decode cX7_number 57 = .ok (.lreturn, 1) := by decide +kernel
theorem dX7_count_0 : decode cX7_count 0 = .ok (.iload_n 1, 1) := by decide +kernel
theorem dX7_count_1 : decode cX7_count 1 = .ok (.tableswitch 66 0 3 #[31, 39, 47, 58], 31) := by decide +kernel
theorem dX7_count_32 : decode cX7_count 32 = .ok (.aload_n 0, 1) := by decide +kernel
theorem dX7_count_33 : decode cX7_count 33 = .ok (.getfield 12, 3) := by decide +kernel
theorem dX7_count_36 : decode cX7_count 36 = .ok (.getfield 75, 3) := by decide +kernel
theorem dX7_count_39 : decode cX7_count 39 = .ok (.ireturn, 1) := by decide +kernel
theorem dX7_count_40 : decode cX7_count 40 = .ok (.aload_n 0, 1) := by decide +kernel
theorem dX7_count_41 : decode cX7_count 41 = .ok (.getfield 19, 3) := by decide +kernel
theorem dX7_count_44 : decode cX7_count 44 = .ok (.getfield 100, 3) := by decide +kernel
theorem dX7_count_47 : decode cX7_count 47 = .ok (.ireturn, 1) := by decide +kernel
theorem dX7_count_48 : decode cX7_count 48 = .ok (.aload_n 0, 1) := by decide +kernel
theorem dX7_count_49 : decode cX7_count 49 = .ok (.getfield 19, 3) := by decide +kernel
theorem dX7_count_52 : decode cX7_count 52 = .ok (.getfield 173, 3) := by decide +kernel
theorem dX7_count_55 : decode cX7_count 55 = .ok (.invokestatic 192, 3) := by decide +kernel
theorem dX7_count_58 : decode cX7_count 58 = .ok (.ireturn, 1) := by decide +kernel
theorem dX7_count_59 : decode cX7_count 59 = .ok (.aload_n 0, 1) := by decide +kernel
theorem dX7_count_60 : decode cX7_count 60 = .ok (.getfield 26, 3) := by decide +kernel
theorem dX7_count_63 : decode cX7_count 63 = .ok (.invokevirtual 244, 3) := by decide +kernel
theorem dX7_count_66 : decode cX7_count 66 = .ok (.ireturn, 1) := by decide +kernel
theorem dX7_count_67 : decode cX7_count 67 = .ok (.iconst (-1), 1) := by decide +kernel
theorem dX7_count_68 : decode cX7_count 68 = .ok (.ireturn, 1) := by decide +kernel
theorem dX7_within_0 : decode cX7_within 0 = .ok (.iload_n 0, 1) := by decide +kernel
theorem dX7_within_1 : decode cX7_within 1 = .ok (.iload_n 1, 1) := by decide +kernel
theorem dX7_within_2 : decode cX7_within 2 = .ok (.if_icmp .lt 12, 3) := by decide +kernel
theorem dX7_within_5 : decode cX7_within 5 = .ok (.iload_n 0, 1) := by decide +kernel
theorem dX7_within_6 : decode cX7_within 6 = .ok (.iload_n 2, 1) := by decide +kernel
theorem dX7_within_7 : decode cX7_within 7 = .ok (.if_icmp .gt 7, 3) := by decide +kernel
theorem dX7_within_10 : decode cX7_within 10 = .ok (.iconst 1, 1) := by decide +kernel
theorem dX7_within_11 : decode cX7_within 11 = .ok (.goto 4, 3) := by decide +kernel
theorem dX7_within_14 : decode cX7_within 14 = .ok (.iconst 0, 1) := by decide +kernel
theorem dX7_within_15 : decode cX7_within 15 = .ok (.ireturn, 1) := by decide +kernel
theorem dX7_isSide_0 : decode cX7_isSide 0 = .ok (.iload_n 0, 1) := by decide +kernel
theorem dX7_isSide_1 : decode cX7_isSide 1 = .ok (.iconst 0, 1) := by decide +kernel
theorem dX7_isSide_2 : decode cX7_isSide 2 = .ok (.bipush 50, 2) := by decide +kernel
theorem dX7_isSide_4 : decode cX7_isSide 4 = .ok (.invokestatic 64, 3) := by decide +kernel
theorem dX7_isSide_7 : decode cX7_isSide 7 = .ok (.ireturn, 1) := by decide +kernel
theorem dX7_isTip_0 : decode cX7_isTip 0 = .ok (.iload_n 0, 1) := by decide +kernel
theorem dX7_isTip_1 : decode cX7_isTip 1 = .ok (.iconst 0, 1) := by decide +kernel
theorem dX7_isTip_2 : decode cX7_isTip 2 = .ok (.sipush 1000, 3) := by decide +kernel
theorem dX7_isTip_5 : decode cX7_isTip 5 = .ok (.invokestatic 64, 3) := by decide +kernel
theorem dX7_isTip_8 : decode cX7_isTip 8 = .ok (.ireturn, 1) := by decide +kernel
theorem dX7_isPlace_0 : decode cX7_isPlace 0 = .ok (.iload_n 0, 1) := by decide +kernel
theorem dX7_isPlace_1 : decode cX7_isPlace 1 = .ok (.bipush (-20), 2) := by decide +kernel
theorem dX7_isPlace_3 : decode cX7_isPlace 3 = .ok (.bipush 20, 2) := by decide +kernel
theorem dX7_isPlace_5 : decode cX7_isPlace 5 = .ok (.invokestatic 64, 3) := by decide +kernel
theorem dX7_isPlace_8 : decode cX7_isPlace 8 = .ok (.ifCond .eq 18, 3) := by decide +kernel
theorem dX7_isPlace_11 : decode cX7_isPlace 11 = .ok (.iload_n 1, 1) := by decide +kernel
theorem dX7_isPlace_12 : decode cX7_isPlace 12 = .ok (.bipush (-20), 2) := by decide +kernel
theorem dX7_isPlace_14 : decode cX7_isPlace 14 = .ok (.bipush 20, 2) := by decide +kernel
theorem dX7_isPlace_16 : decode cX7_isPlace 16 = .ok (.invokestatic 64, 3) := by decide +kernel
theorem dX7_isPlace_19 : decode cX7_isPlace 19 = .ok (.ifCond .eq 7, 3) := by decide +kernel
theorem dX7_isPlace_22 : decode cX7_isPlace 22 = .ok (.iconst 1, 1) := by decide +kernel
theorem dX7_isPlace_23 : decode cX7_isPlace 23 = .ok (.goto 4, 3) := by decide +kernel
theorem dX7_isPlace_26 : decode cX7_isPlace 26 = .ok (.iconst 0, 1) := by decide +kernel
theorem dX7_isPlace_27 : decode cX7_isPlace 27 = .ok (.ireturn, 1) := by decide +kernel
theorem dX7_isCase_0 : decode cX7_isCase 0 = .ok (.iload_n 0, 1) := by decide +kernel
theorem dX7_isCase_1 : decode cX7_isCase 1 = .ok (.iconst 0, 1) := by decide +kernel
theorem dX7_isCase_2 : decode cX7_isCase 2 = .ok (.iconst 2, 1) := by decide +kernel
theorem dX7_isCase_3 : decode cX7_isCase 3 = .ok (.invokestatic 64, 3) := by decide +kernel
theorem dX7_isCase_6 : decode cX7_isCase 6 = .ok (.ireturn, 1) := by decide +kernel
theorem dX7_settle_0 : decode cX7_settle 0 = .ok (.iload_n 1, 1) := by decide +kernel
theorem dX7_settle_1 : decode cX7_settle 1 = .ok (.invokestatic 135, 3) := by decide +kernel
theorem dX7_settle_4 : decode cX7_settle 4 = .ok (.ifCond .ne 5, 3) := by decide +kernel
theorem dX7_settle_7 : decode cX7_settle 7 = .ok (.iconst (-1), 1) := by decide +kernel
theorem dX7_settle_8 : decode cX7_settle 8 = .ok (.ireturn, 1) := by decide +kernel
theorem dX7_settle_9 : decode cX7_settle 9 = .ok (.aload_n 0, 1) := by decide +kernel
theorem dX7_settle_10 : decode cX7_settle 10 = .ok (.getfield 35, 3) := by decide +kernel
theorem dX7_settle_13 : decode cX7_settle 13 = .ok (.aload_n 0, 1) := by decide +kernel
theorem dX7_settle_14 : decode cX7_settle 14 = .ok (.getfield 19, 3) := by decide +kernel
theorem dX7_settle_17 : decode cX7_settle 17 = .ok (.getfield 173, 3) := by decide +kernel
theorem dX7_settle_20 : decode cX7_settle 20 = .ok (.invokevirtual 248, 3) := by decide +kernel
theorem dX7_settle_23 : decode cX7_settle 23 = .ok (.ifCond .ne 6, 3) := by decide +kernel
theorem dX7_settle_26 : decode cX7_settle 26 = .ok (.bipush (-2), 2) := by decide +kernel
theorem dX7_settle_28 : decode cX7_settle 28 = .ok (.ireturn, 1) := by decide +kernel
theorem dX7_settle_29 : decode cX7_settle 29 = .ok (.aload_n 0, 1) := by decide +kernel
theorem dX7_settle_30 : decode cX7_settle 30 = .ok (.getfield 35, 3) := by decide +kernel
theorem dX7_settle_33 : decode cX7_settle 33 = .ok (.aload_n 0, 1) := by decide +kernel
theorem dX7_settle_34 : decode cX7_settle 34 = .ok (.getfield 26, 3) := by decide +kernel
theorem dX7_settle_37 : decode cX7_settle 37 = .ok (.iload_n 1, 1) := by decide +kernel
theorem dX7_settle_38 : decode cX7_settle 38 = .ok (.invokevirtual 251, 3) := by decide +kernel
theorem dX7_settle_41 : decode cX7_settle 41 = .ok (.iconst 0, 1) := by decide +kernel
theorem dX7_settle_42 : decode cX7_settle 42 = .ok (.ireturn, 1) := by decide +kernel
theorem dX7_overloaded_0 : decode cX7_overloaded 0 = .ok (.iconst 0, 1) := by decide +kernel
theorem dX7_overloaded_1 : decode cX7_overloaded 1 = .ok (.istore_n 2, 1) := by decide +kernel
theorem dX7_overloaded_2 : decode cX7_overloaded 2 = .ok (.iconst 0, 1) := by decide +kernel
theorem dX7_overloaded_3 : decode cX7_overloaded 3 = .ok (.istore_n 3, 1) := by decide +kernel
theorem dX7_overloaded_4 : decode cX7_overloaded 4 = .ok (.iload_n 3, 1) := by decide +kernel
theorem dX7_overloaded_5 : decode cX7_overloaded 5 = .ok (.aload_n 0, 1) := by decide +kernel
theorem dX7_overloaded_6 : decode cX7_overloaded 6 = .ok (.getfield 19, 3) := by decide +kernel
theorem dX7_overloaded_9 : decode cX7_overloaded 9 = .ok (.getfield 100, 3) := by decide +kernel
theorem dX7_overloaded_12 : decode cX7_overloaded 12 = .ok (.if_icmp .ge 60, 3) := by decide +kernel
theorem dX7_overloaded_15 : decode cX7_overloaded 15 = .ok (.iload_n 1, 1) := by decide +kernel
theorem dX7_overloaded_16 : decode cX7_overloaded 16 = .ok (.iload_n 3, 1) := by decide +kernel
theorem dX7_overloaded_17 : decode cX7_overloaded 17 = .ok (.ishr, 1) := by decide +kernel
theorem dX7_overloaded_18 : decode cX7_overloaded 18 = .ok (.iconst 1, 1) := by decide +kernel
theorem dX7_overloaded_19 : decode cX7_overloaded 19 = .ok (.iand, 1) := by decide +kernel
theorem dX7_overloaded_20 : decode cX7_overloaded 20 = .ok (.ifCond .eq 46, 3) := by decide +kernel
theorem dX7_overloaded_23 : decode cX7_overloaded 23 = .ok (.aload_n 0, 1) := by decide +kernel
theorem dX7_overloaded_24 : decode cX7_overloaded 24 = .ok (.getfield 35, 3) := by decide +kernel
theorem dX7_overloaded_27 : decode cX7_overloaded 27 = .ok (.iload_n 3, 1) := by decide +kernel
theorem dX7_overloaded_28 : decode cX7_overloaded 28 = .ok (.invokevirtual 165, 3) := by decide +kernel
theorem dX7_overloaded_31 : decode cX7_overloaded 31 = .ok (.lstore 4, 2) := by decide +kernel
theorem dX7_overloaded_33 : decode cX7_overloaded 33 = .ok (.lload 4, 2) := by decide +kernel
theorem dX7_overloaded_35 : decode cX7_overloaded 35 = .ok (.invokestatic 186, 3) := by decide +kernel
theorem dX7_overloaded_38 : decode cX7_overloaded 38 = .ok (.aload_n 0, 1) := by decide +kernel
theorem dX7_overloaded_39 : decode cX7_overloaded 39 = .ok (.getfield 42, 3) := by decide +kernel
theorem dX7_overloaded_42 : decode cX7_overloaded 42 = .ok (.iload_n 3, 1) := by decide +kernel
theorem dX7_overloaded_43 : decode cX7_overloaded 43 = .ok (.lload 4, 2) := by decide +kernel
theorem dX7_overloaded_45 : decode cX7_overloaded 45 = .ok (.invokevirtual 182, 3) := by decide +kernel
theorem dX7_overloaded_48 : decode cX7_overloaded 48 = .ok (.aload_n 0, 1) := by decide +kernel
theorem dX7_overloaded_49 : decode cX7_overloaded 49 = .ok (.getfield 35, 3) := by decide +kernel
theorem dX7_overloaded_52 : decode cX7_overloaded 52 = .ok (.getfield 153, 3) := by decide +kernel
theorem dX7_overloaded_55 : decode cX7_overloaded 55 = .ok (.lmul, 1) := by decide +kernel
theorem dX7_overloaded_56 : decode cX7_overloaded 56 = .ok (.lcmp, 1) := by decide +kernel
theorem dX7_overloaded_57 : decode cX7_overloaded 57 = .ok (.ifCond .le 9, 3) := by decide +kernel
theorem dX7_overloaded_60 : decode cX7_overloaded 60 = .ok (.iload_n 2, 1) := by decide +kernel
theorem dX7_overloaded_61 : decode cX7_overloaded 61 = .ok (.iconst 1, 1) := by decide +kernel
theorem dX7_overloaded_62 : decode cX7_overloaded 62 = .ok (.iload_n 3, 1) := by decide +kernel
theorem dX7_overloaded_63 : decode cX7_overloaded 63 = .ok (.ishl, 1) := by decide +kernel
theorem dX7_overloaded_64 : decode cX7_overloaded 64 = .ok (.ior, 1) := by decide +kernel
theorem dX7_overloaded_65 : decode cX7_overloaded 65 = .ok (.istore_n 2, 1) := by decide +kernel
theorem dX7_overloaded_66 : decode cX7_overloaded 66 = .ok (.iinc 3 1, 3) := by decide +kernel
theorem dX7_overloaded_69 : decode cX7_overloaded 69 = .ok (.goto (-65), 3) := by decide +kernel
theorem dX7_overloaded_72 : decode cX7_overloaded 72 = .ok (.iload_n 2, 1) := by decide +kernel
theorem dX7_overloaded_73 : decode cX7_overloaded 73 = .ok (.ireturn, 1) := by decide +kernel
theorem dX7_endsBefore_0 : decode cX7_endsBefore 0 = .ok (.aload_n 0, 1) := by decide +kernel
theorem dX7_endsBefore_1 : decode cX7_endsBefore 1 = .ok (.getfield 35, 3) := by decide +kernel
theorem dX7_endsBefore_4 : decode cX7_endsBefore 4 = .ok (.iload_n 1, 1) := by decide +kernel
theorem dX7_endsBefore_5 : decode cX7_endsBefore 5 = .ok (.invokevirtual 165, 3) := by decide +kernel
theorem dX7_endsBefore_8 : decode cX7_endsBefore 8 = .ok (.lstore_n 3, 1) := by decide +kernel
theorem dX7_endsBefore_9 : decode cX7_endsBefore 9 = .ok (.aload_n 0, 1) := by decide +kernel
theorem dX7_endsBefore_10 : decode cX7_endsBefore 10 = .ok (.getfield 35, 3) := by decide +kernel
theorem dX7_endsBefore_13 : decode cX7_endsBefore 13 = .ok (.iload_n 2, 1) := by decide +kernel
theorem dX7_endsBefore_14 : decode cX7_endsBefore 14 = .ok (.invokevirtual 165, 3) := by decide +kernel
theorem dX7_endsBefore_17 : decode cX7_endsBefore 17 = .ok (.lstore 5, 2) := by decide +kernel
theorem dX7_endsBefore_19 : decode cX7_endsBefore 19 = .ok (.aload_n 0, 1) := by decide +kernel
theorem dX7_endsBefore_20 : decode cX7_endsBefore 20 = .ok (.getfield 42, 3) := by decide +kernel
theorem dX7_endsBefore_23 : decode cX7_endsBefore 23 = .ok (.iload_n 1, 1) := by decide +kernel
theorem dX7_endsBefore_24 : decode cX7_endsBefore 24 = .ok (.lload_n 3, 1) := by decide +kernel
theorem dX7_endsBefore_25 : decode cX7_endsBefore 25 = .ok (.invokevirtual 182, 3) := by decide +kernel
theorem dX7_endsBefore_28 : decode cX7_endsBefore 28 = .ok (.lload_n 3, 1) := by decide +kernel
theorem dX7_endsBefore_29 : decode cX7_endsBefore 29 = .ok (.invokestatic 186, 3) := by decide +kernel
theorem dX7_endsBefore_32 : decode cX7_endsBefore 32 = .ok (.aload_n 0, 1) := by decide +kernel
theorem dX7_endsBefore_33 : decode cX7_endsBefore 33 = .ok (.getfield 42, 3) := by decide +kernel
theorem dX7_endsBefore_36 : decode cX7_endsBefore 36 = .ok (.iload_n 2, 1) := by decide +kernel
theorem dX7_endsBefore_37 : decode cX7_endsBefore 37 = .ok (.lload 5, 2) := by decide +kernel
theorem dX7_endsBefore_39 : decode cX7_endsBefore 39 = .ok (.invokevirtual 182, 3) := by decide +kernel
theorem dX7_endsBefore_42 : decode cX7_endsBefore 42 = .ok (.lload 5, 2) := by decide +kernel
theorem dX7_endsBefore_44 : decode cX7_endsBefore 44 = .ok (.invokestatic 186, 3) := by decide +kernel
theorem dX7_endsBefore_47 : decode cX7_endsBefore 47 = .ok (.invokestatic 255, 3) := by decide +kernel
theorem dX7_endsBefore_50 : decode cX7_endsBefore 50 = .ok (.ifCond .ge 7, 3) := by decide +kernel
theorem dX7_endsBefore_53 : decode cX7_endsBefore 53 = .ok (.iconst 1, 1) := by decide +kernel
theorem dX7_endsBefore_54 : decode cX7_endsBefore 54 = .ok (.goto 4, 3) := by decide +kernel
theorem dX7_endsBefore_57 : decode cX7_endsBefore 57 = .ok (.iconst 0, 1) := by decide +kernel
theorem dX7_endsBefore_58 : decode cX7_endsBefore 58 = .ok (.ireturn, 1) := by decide +kernel
theorem dX7_holds_0 : decode cX7_holds 0 = .ok (.aload_n 0, 1) := by decide +kernel
theorem dX7_holds_1 : decode cX7_holds 1 = .ok (.getfield 42, 3) := by decide +kernel
theorem dX7_holds_4 : decode cX7_holds 4 = .ok (.iload_n 1, 1) := by decide +kernel
theorem dX7_holds_5 : decode cX7_holds 5 = .ok (.invokevirtual 259, 3) := by decide +kernel
theorem dX7_holds_8 : decode cX7_holds 8 = .ok (.ifCond .eq 14, 3) := by decide +kernel
theorem dX7_holds_11 : decode cX7_holds 11 = .ok (.aload_n 0, 1) := by decide +kernel
theorem dX7_holds_12 : decode cX7_holds 12 = .ok (.getfield 35, 3) := by decide +kernel
theorem dX7_holds_15 : decode cX7_holds 15 = .ok (.iload_n 1, 1) := by decide +kernel
theorem dX7_holds_16 : decode cX7_holds 16 = .ok (.invokevirtual 248, 3) := by decide +kernel
theorem dX7_holds_19 : decode cX7_holds 19 = .ok (.ifCond .ne 5, 3) := by decide +kernel
theorem dX7_holds_22 : decode cX7_holds 22 = .ok (.iconst 0, 1) := by decide +kernel
theorem dX7_holds_23 : decode cX7_holds 23 = .ok (.ireturn, 1) := by decide +kernel
theorem dX7_holds_24 : decode cX7_holds 24 = .ok (.iconst 0, 1) := by decide +kernel
theorem dX7_holds_25 : decode cX7_holds 25 = .ok (.istore_n 2, 1) := by decide +kernel
theorem dX7_holds_26 : decode cX7_holds 26 = .ok (.iload_n 2, 1) := by decide +kernel
theorem dX7_holds_27 : decode cX7_holds 27 = .ok (.iconst 3, 1) := by decide +kernel
theorem dX7_holds_28 : decode cX7_holds 28 = .ok (.if_icmp .ge 43, 3) := by decide +kernel
theorem dX7_holds_31 : decode cX7_holds 31 = .ok (.aload_n 0, 1) := by decide +kernel
theorem dX7_holds_32 : decode cX7_holds 32 = .ok (.getfield 26, 3) := by decide +kernel
theorem dX7_holds_35 : decode cX7_holds 35 = .ok (.getfield 138, 3) := by decide +kernel
theorem dX7_holds_38 : decode cX7_holds 38 = .ok (.iload_n 2, 1) := by decide +kernel
theorem dX7_holds_39 : decode cX7_holds 39 = .ok (.iaload, 1) := by decide +kernel
theorem dX7_holds_40 : decode cX7_holds 40 = .ok (.ifCond .le 25, 3) := by decide +kernel
theorem dX7_holds_43 : decode cX7_holds 43 = .ok (.aload_n 0, 1) := by decide +kernel
theorem dX7_holds_44 : decode cX7_holds 44 = .ok (.getfield 35, 3) := by decide +kernel
theorem dX7_holds_47 : decode cX7_holds 47 = .ok (.aload_n 0, 1) := by decide +kernel
theorem dX7_holds_48 : decode cX7_holds 48 = .ok (.getfield 26, 3) := by decide +kernel
theorem dX7_holds_51 : decode cX7_holds 51 = .ok (.iload_n 2, 1) := by decide +kernel
theorem dX7_holds_52 : decode cX7_holds 52 = .ok (.invokevirtual 251, 3) := by decide +kernel
theorem dX7_holds_55 : decode cX7_holds 55 = .ok (.aload_n 0, 1) := by decide +kernel
theorem dX7_holds_56 : decode cX7_holds 56 = .ok (.iload_n 1, 1) := by decide +kernel
theorem dX7_holds_57 : decode cX7_holds 57 = .ok (.invokevirtual 176, 3) := by decide +kernel
theorem dX7_holds_60 : decode cX7_holds 60 = .ok (.ifCond .eq 5, 3) := by decide +kernel
theorem dX7_holds_63 : decode cX7_holds 63 = .ok (.iconst 0, 1) := by decide +kernel
theorem dX7_holds_64 : decode cX7_holds 64 = .ok (.ireturn, 1) := by decide +kernel
theorem dX7_holds_65 : decode cX7_holds 65 = .ok (.iinc 2 1, 3) := by decide +kernel
theorem dX7_holds_68 : decode cX7_holds 68 = .ok (.goto (-42), 3) := by decide +kernel
theorem dX7_holds_71 : decode cX7_holds 71 = .ok (.iconst 1, 1) := by decide +kernel
theorem dX7_holds_72 : decode cX7_holds 72 = .ok (.ireturn, 1) := by decide +kernel
theorem dX7_tellDepth_0 : decode cX7_tellDepth 0 = .ok (.iconst 0, 1) := by decide +kernel
theorem dX7_tellDepth_1 : decode cX7_tellDepth 1 = .ok (.istore_n 3, 1) := by decide +kernel
theorem dX7_tellDepth_2 : decode cX7_tellDepth 2 = .ok (.iconst 0, 1) := by decide +kernel
theorem dX7_tellDepth_3 : decode cX7_tellDepth 3 = .ok (.istore 4, 2) := by decide +kernel
theorem dX7_tellDepth_5 : decode cX7_tellDepth 5 = .ok (.iload 4, 2) := by decide +kernel
theorem dX7_tellDepth_7 : decode cX7_tellDepth 7 = .ok (.iload_n 1, 1) := by decide +kernel
theorem dX7_tellDepth_8 : decode cX7_tellDepth 8 = .ok (.if_icmp .ge 71, 3) := by decide +kernel
theorem dX7_tellDepth_11 : decode cX7_tellDepth 11 = .ok (.iload_n 2, 1) := by decide +kernel
theorem dX7_tellDepth_12 : decode cX7_tellDepth 12 = .ok (.ifCond .le 67, 3) := by decide +kernel
theorem dX7_tellDepth_15 : decode cX7_tellDepth 15 = .ok (.aload_n 0, 1) := by decide +kernel
theorem dX7_tellDepth_16 : decode cX7_tellDepth 16 = .ok (.getfield 12, 3) := by decide +kernel
theorem dX7_tellDepth_19 : decode cX7_tellDepth 19 = .ok (.iload 4, 2) := by decide +kernel
theorem dX7_tellDepth_21 : decode cX7_tellDepth 21 = .ok (.invokevirtual 262, 3) := by decide +kernel
theorem dX7_tellDepth_24 : decode cX7_tellDepth 24 = .ok (.istore 5, 2) := by decide +kernel
theorem dX7_tellDepth_26 : decode cX7_tellDepth 26 = .ok (.iload 5, 2) := by decide +kernel
theorem dX7_tellDepth_28 : decode cX7_tellDepth 28 = .ok (.ifCond .le 40, 3) := by decide +kernel
theorem dX7_tellDepth_31 : decode cX7_tellDepth 31 = .ok (.iconst 2, 1) := by decide +kernel
theorem dX7_tellDepth_32 : decode cX7_tellDepth 32 = .ok (.iload_n 3, 1) := by decide +kernel
theorem dX7_tellDepth_33 : decode cX7_tellDepth 33 = .ok (.iload 5, 2) := by decide +kernel
theorem dX7_tellDepth_35 : decode cX7_tellDepth 35 = .ok (.iadd, 1) := by decide +kernel
theorem dX7_tellDepth_36 : decode cX7_tellDepth 36 = .ok (.imul, 1) := by decide +kernel
theorem dX7_tellDepth_37 : decode cX7_tellDepth 37 = .ok (.iload_n 2, 1) := by decide +kernel
theorem dX7_tellDepth_38 : decode cX7_tellDepth 38 = .ok (.if_icmp .lt 30, 3) := by decide +kernel
theorem dX7_tellDepth_41 : decode cX7_tellDepth 41 = .ok (.aload_n 0, 1) := by decide +kernel
theorem dX7_tellDepth_42 : decode cX7_tellDepth 42 = .ok (.getfield 56, 3) := by decide +kernel
theorem dX7_tellDepth_45 : decode cX7_tellDepth 45 = .ok (.iconst 2, 1) := by decide +kernel
theorem dX7_tellDepth_46 : decode cX7_tellDepth 46 = .ok (.iload 5, 2) := by decide +kernel
theorem dX7_tellDepth_48 : decode cX7_tellDepth 48 = .ok (.imul, 1) := by decide +kernel
theorem dX7_tellDepth_49 : decode cX7_tellDepth 49 = .ok (.iload 4, 2) := by decide +kernel
theorem dX7_tellDepth_51 : decode cX7_tellDepth 51 = .ok (.imul, 1) := by decide +kernel
theorem dX7_tellDepth_52 : decode cX7_tellDepth 52 = .ok (.iload_n 2, 1) := by decide +kernel
theorem dX7_tellDepth_53 : decode cX7_tellDepth 53 = .ok (.iadd, 1) := by decide +kernel
theorem dX7_tellDepth_54 : decode cX7_tellDepth 54 = .ok (.iconst 2, 1) := by decide +kernel
theorem dX7_tellDepth_55 : decode cX7_tellDepth 55 = .ok (.iload_n 3, 1) := by decide +kernel
theorem dX7_tellDepth_56 : decode cX7_tellDepth 56 = .ok (.imul, 1) := by decide +kernel
theorem dX7_tellDepth_57 : decode cX7_tellDepth 57 = .ok (.isub, 1) := by decide +kernel
theorem dX7_tellDepth_58 : decode cX7_tellDepth 58 = .ok (.i2l, 1) := by decide +kernel
theorem dX7_tellDepth_59 : decode cX7_tellDepth 59 = .ok (.iconst 2, 1) := by decide +kernel
theorem dX7_tellDepth_60 : decode cX7_tellDepth 60 = .ok (.iload 5, 2) := by decide +kernel
theorem dX7_tellDepth_62 : decode cX7_tellDepth 62 = .ok (.imul, 1) := by decide +kernel
theorem dX7_tellDepth_63 : decode cX7_tellDepth 63 = .ok (.i2l, 1) := by decide +kernel
theorem dX7_tellDepth_64 : decode cX7_tellDepth 64 = .ok (.invokevirtual 156, 3) := by decide +kernel
theorem dX7_tellDepth_67 : decode cX7_tellDepth 67 = .ok (.return_, 1) := by decide +kernel
theorem dX7_tellDepth_68 : decode cX7_tellDepth 68 = .ok (.iload_n 3, 1) := by decide +kernel
theorem dX7_tellDepth_69 : decode cX7_tellDepth 69 = .ok (.iload 5, 2) := by decide +kernel
theorem dX7_tellDepth_71 : decode cX7_tellDepth 71 = .ok (.iadd, 1) := by decide +kernel
theorem dX7_tellDepth_72 : decode cX7_tellDepth 72 = .ok (.istore_n 3, 1) := by decide +kernel
theorem dX7_tellDepth_73 : decode cX7_tellDepth 73 = .ok (.iinc 4 1, 3) := by decide +kernel
theorem dX7_tellDepth_76 : decode cX7_tellDepth 76 = .ok (.goto (-71), 3) := by decide +kernel
theorem dX7_tellDepth_79 : decode cX7_tellDepth 79 = .ok (.aload_n 0, 1) := by decide +kernel
theorem dX7_tellDepth_80 : decode cX7_tellDepth 80 = .ok (.getfield 56, 3) := by decide +kernel
theorem dX7_tellDepth_83 : decode cX7_tellDepth 83 = .ok (.lconst 0, 1) := by decide +kernel
theorem dX7_tellDepth_84 : decode cX7_tellDepth 84 = .ok (.lconst 1, 1) := by decide +kernel
theorem dX7_tellDepth_85 : decode cX7_tellDepth 85 = .ok (.invokevirtual 156, 3) := by decide +kernel
theorem dX7_tellDepth_88 : decode cX7_tellDepth 88 = .ok (.return_, 1) := by decide +kernel
theorem dX7_commonDivisor_0 : decode cX7_commonDivisor 0 = .ok (.iconst 0, 1) := by decide +kernel
theorem dX7_commonDivisor_1 : decode cX7_commonDivisor 1 = .ok (.istore 4, 2) := by decide +kernel
theorem dX7_commonDivisor_3 : decode cX7_commonDivisor 3 = .ok (.iload 4, 2) := by decide +kernel
theorem dX7_commonDivisor_5 : decode cX7_commonDivisor 5 = .ok (.sipush 200, 3) := by decide +kernel
theorem dX7_commonDivisor_8 : decode cX7_commonDivisor 8 = .ok (.if_icmp .ge 25, 3) := by decide +kernel
theorem dX7_commonDivisor_11 : decode cX7_commonDivisor 11 = .ok (.lload_n 2, 1) := by decide +kernel
theorem dX7_commonDivisor_12 : decode cX7_commonDivisor 12 = .ok (.lconst 0, 1) := by decide +kernel
theorem dX7_commonDivisor_13 : decode cX7_commonDivisor 13 = .ok (.lcmp, 1) := by decide +kernel
theorem dX7_commonDivisor_14 : decode cX7_commonDivisor 14 = .ok (.ifCond .eq 19, 3) := by decide +kernel
theorem dX7_commonDivisor_17 : decode cX7_commonDivisor 17 = .ok (.lload_n 0, 1) := by decide +kernel
theorem dX7_commonDivisor_18 : decode cX7_commonDivisor 18 = .ok (.lload_n 2, 1) := by decide +kernel
theorem dX7_commonDivisor_19 : decode cX7_commonDivisor 19 = .ok (.lrem, 1) := by decide +kernel
theorem dX7_commonDivisor_20 : decode cX7_commonDivisor 20 = .ok (.lstore 5, 2) := by decide +kernel
theorem dX7_commonDivisor_22 : decode cX7_commonDivisor 22 = .ok (.lload_n 2, 1) := by decide +kernel
theorem dX7_commonDivisor_23 : decode cX7_commonDivisor 23 = .ok (.lstore_n 0, 1) := by decide +kernel
theorem dX7_commonDivisor_24 : decode cX7_commonDivisor 24 = .ok (.lload 5, 2) := by decide +kernel
theorem dX7_commonDivisor_26 : decode cX7_commonDivisor 26 = .ok (.lstore_n 2, 1) := by decide +kernel
theorem dX7_commonDivisor_27 : decode cX7_commonDivisor 27 = .ok (.iinc 4 1, 3) := by decide +kernel
theorem dX7_commonDivisor_30 : decode cX7_commonDivisor 30 = .ok (.goto (-27), 3) := by decide +kernel
theorem dX7_commonDivisor_33 : decode cX7_commonDivisor 33 = .ok (.lload_n 0, 1) := by decide +kernel
theorem dX7_commonDivisor_34 : decode cX7_commonDivisor 34 = .ok (.lreturn, 1) := by decide +kernel
theorem dX7_compare_0 : decode cX7_compare 0 = .ok (.iconst 0, 1) := by decide +kernel
theorem dX7_compare_1 : decode cX7_compare 1 = .ok (.istore 8, 2) := by decide +kernel
theorem dX7_compare_3 : decode cX7_compare 3 = .ok (.iload 8, 2) := by decide +kernel
theorem dX7_compare_5 : decode cX7_compare 5 = .ok (.sipush 200, 3) := by decide +kernel
theorem dX7_compare_8 : decode cX7_compare 8 = .ok (.if_icmp .ge 90, 3) := by decide +kernel
theorem dX7_compare_11 : decode cX7_compare 11 = .ok (.lload_n 2, 1) := by decide +kernel
theorem dX7_compare_12 : decode cX7_compare 12 = .ok (.lconst 0, 1) := by decide +kernel
theorem dX7_compare_13 : decode cX7_compare 13 = .ok (.lcmp, 1) := by decide +kernel
theorem dX7_compare_14 : decode cX7_compare 14 = .ok (.ifCond .le 84, 3) := by decide +kernel
theorem dX7_compare_17 : decode cX7_compare 17 = .ok (.lload 6, 2) := by decide +kernel
theorem dX7_compare_19 : decode cX7_compare 19 = .ok (.lconst 0, 1) := by decide +kernel
theorem dX7_compare_20 : decode cX7_compare 20 = .ok (.lcmp, 1) := by decide +kernel
theorem dX7_compare_21 : decode cX7_compare 21 = .ok (.ifCond .le 77, 3) := by decide +kernel
theorem dX7_compare_24 : decode cX7_compare 24 = .ok (.lload_n 0, 1) := by decide +kernel
theorem dX7_compare_25 : decode cX7_compare 25 = .ok (.lload_n 2, 1) := by decide +kernel
theorem dX7_compare_26 : decode cX7_compare 26 = .ok (.ldiv, 1) := by decide +kernel
theorem dX7_compare_27 : decode cX7_compare 27 = .ok (.lload 4, 2) := by decide +kernel
theorem dX7_compare_29 : decode cX7_compare 29 = .ok (.lload 6, 2) := by decide +kernel
theorem dX7_compare_31 : decode cX7_compare 31 = .ok (.ldiv, 1) := by decide +kernel
theorem dX7_compare_32 : decode cX7_compare 32 = .ok (.invokestatic 265, 3) := by decide +kernel
theorem dX7_compare_35 : decode cX7_compare 35 = .ok (.istore 9, 2) := by decide +kernel
theorem dX7_compare_37 : decode cX7_compare 37 = .ok (.iload 9, 2) := by decide +kernel
theorem dX7_compare_39 : decode cX7_compare 39 = .ok (.ifCond .eq 6, 3) := by decide +kernel
theorem dX7_compare_42 : decode cX7_compare 42 = .ok (.iload 9, 2) := by decide +kernel
theorem dX7_compare_44 : decode cX7_compare 44 = .ok (.ireturn, 1) := by decide +kernel
theorem dX7_compare_45 : decode cX7_compare 45 = .ok (.lload_n 0, 1) := by decide +kernel
theorem dX7_compare_46 : decode cX7_compare 46 = .ok (.lload_n 2, 1) := by decide +kernel
theorem dX7_compare_47 : decode cX7_compare 47 = .ok (.lrem, 1) := by decide +kernel
theorem dX7_compare_48 : decode cX7_compare 48 = .ok (.lstore 10, 2) := by decide +kernel
theorem dX7_compare_50 : decode cX7_compare 50 = .ok (.lload 4, 2) := by decide +kernel
theorem dX7_compare_52 : decode cX7_compare 52 = .ok (.lload 6, 2) := by decide +kernel
theorem dX7_compare_54 : decode cX7_compare 54 = .ok (.lrem, 1) := by decide +kernel
theorem dX7_compare_55 : decode cX7_compare 55 = .ok (.lstore 12, 2) := by decide +kernel
theorem dX7_compare_57 : decode cX7_compare 57 = .ok (.lload 10, 2) := by decide +kernel
theorem dX7_compare_59 : decode cX7_compare 59 = .ok (.lconst 0, 1) := by decide +kernel
theorem dX7_compare_60 : decode cX7_compare 60 = .ok (.lcmp, 1) := by decide +kernel
theorem dX7_compare_61 : decode cX7_compare 61 = .ok (.ifCond .eq 10, 3) := by decide +kernel
theorem dX7_compare_64 : decode cX7_compare 64 = .ok (.lload 12, 2) := by decide +kernel
theorem dX7_compare_66 : decode cX7_compare 66 = .ok (.lconst 0, 1) := by decide +kernel
theorem dX7_compare_67 : decode cX7_compare 67 = .ok (.lcmp, 1) := by decide +kernel
theorem dX7_compare_68 : decode cX7_compare 68 = .ok (.ifCond .ne 11, 3) := by decide +kernel
theorem dX7_compare_71 : decode cX7_compare 71 = .ok (.lload 10, 2) := by decide +kernel
theorem dX7_compare_73 : decode cX7_compare 73 = .ok (.lload 12, 2) := by decide +kernel
theorem dX7_compare_75 : decode cX7_compare 75 = .ok (.invokestatic 265, 3) := by decide +kernel
theorem dX7_compare_78 : decode cX7_compare 78 = .ok (.ireturn, 1) := by decide +kernel
theorem dX7_compare_79 : decode cX7_compare 79 = .ok (.lload 6, 2) := by decide +kernel
theorem dX7_compare_81 : decode cX7_compare 81 = .ok (.lstore_n 0, 1) := by decide +kernel
theorem dX7_compare_82 : decode cX7_compare 82 = .ok (.lload_n 2, 1) := by decide +kernel
theorem dX7_compare_83 : decode cX7_compare 83 = .ok (.lstore 4, 2) := by decide +kernel
theorem dX7_compare_85 : decode cX7_compare 85 = .ok (.lload 12, 2) := by decide +kernel
theorem dX7_compare_87 : decode cX7_compare 87 = .ok (.lstore_n 2, 1) := by decide +kernel
theorem dX7_compare_88 : decode cX7_compare 88 = .ok (.lload 10, 2) := by decide +kernel
theorem dX7_compare_90 : decode cX7_compare 90 = .ok (.lstore 6, 2) := by decide +kernel
theorem dX7_compare_92 : decode cX7_compare 92 = .ok (.iinc 8 1, 3) := by decide +kernel
theorem dX7_compare_95 : decode cX7_compare 95 = .ok (.goto (-92), 3) := by decide +kernel
theorem dX7_compare_98 : decode cX7_compare 98 = .ok (.iconst 0, 1) := by decide +kernel
theorem dX7_compare_99 : decode cX7_compare 99 = .ok (.ireturn, 1) := by decide +kernel
theorem dX8_init_0 : decode cX8_init 0 = .ok (.aload_n 0, 1) := by decide +kernel
theorem dX8_init_1 : decode cX8_init 1 = .ok (.invokespecial 1, 3) := by decide +kernel
theorem dX8_init_4 : decode cX8_init 4 = .ok (.aload_n 0, 1) := by decide +kernel
theorem dX8_init_5 : decode cX8_init 5 = .ok (.bipush 6, 2) := by decide +kernel
theorem dX8_init_7 : decode cX8_init 7 = .ok (.newarray .int, 2) := by decide +kernel
theorem dX8_init_9 : decode cX8_init 9 = .ok (.putfield 7, 3) := by decide +kernel
theorem dX8_init_12 : decode cX8_init 12 = .ok (.aload_n 0, 1) := by decide +kernel
theorem dX8_init_13 : decode cX8_init 13 = .ok (.bipush 6, 2) := by decide +kernel
theorem dX8_init_15 : decode cX8_init 15 = .ok (.newarray .int, 2) := by decide +kernel
theorem dX8_init_17 : decode cX8_init 17 = .ok (.putfield 13, 3) := by decide +kernel
theorem dX8_init_20 : decode cX8_init 20 = .ok (.aload_n 0, 1) := by decide +kernel
theorem dX8_init_21 : decode cX8_init 21 = .ok (.bipush 6, 2) := by decide +kernel
theorem dX8_init_23 : decode cX8_init 23 = .ok (.newarray .int, 2) := by decide +kernel
theorem dX8_init_25 : decode cX8_init 25 = .ok (.putfield 16, 3) := by decide +kernel
theorem dX8_init_28 : decode cX8_init 28 = .ok (.aload_n 0, 1) := by decide +kernel
theorem dX8_init_29 : decode cX8_init 29 = .ok (.bipush 12, 2) := by decide +kernel
theorem dX8_init_31 : decode cX8_init 31 = .ok (.newarray .int, 2) := by decide +kernel
theorem dX8_init_33 : decode cX8_init 33 = .ok (.putfield 19, 3) := by decide +kernel
theorem dX8_init_36 : decode cX8_init 36 = .ok (.aload_n 0, 1) := by decide +kernel
theorem dX8_init_37 : decode cX8_init 37 = .ok (.bipush 12, 2) := by decide +kernel
theorem dX8_init_39 : decode cX8_init 39 = .ok (.newarray .int, 2) := by decide +kernel
theorem dX8_init_41 : decode cX8_init 41 = .ok (.putfield 22, 3) := by decide +kernel
theorem dX8_init_44 : decode cX8_init 44 = .ok (.aload_n 0, 1) := by decide +kernel
theorem dX8_init_45 : decode cX8_init 45 = .ok (.bipush 12, 2) := by decide +kernel
theorem dX8_init_47 : decode cX8_init 47 = .ok (.newarray .int, 2) := by decide +kernel
theorem dX8_init_49 : decode cX8_init 49 = .ok (.putfield 25, 3) := by decide +kernel
theorem dX8_init_52 : decode cX8_init 52 = .ok (.aload_n 0, 1) := by decide +kernel
theorem dX8_init_53 : decode cX8_init 53 = .ok (.bipush 12, 2) := by decide +kernel
theorem dX8_init_55 : decode cX8_init 55 = .ok (.newarray .int, 2) := by decide +kernel
theorem dX8_init_57 : decode cX8_init 57 = .ok (.putfield 28, 3) := by decide +kernel
theorem dX8_init_60 : decode cX8_init 60 = .ok (.aload_n 0, 1) := by decide +kernel
theorem dX8_init_61 : decode cX8_init 61 = .ok (.bipush 12, 2) := by decide +kernel
theorem dX8_init_63 : decode cX8_init 63 = .ok (.newarray .boolean, 2) := by decide +kernel
theorem dX8_init_65 : decode cX8_init 65 = .ok (.putfield 31, 3) := by decide +kernel
theorem dX8_init_68 : decode cX8_init 68 = .ok (.aload_n 0, 1) := by decide +kernel
theorem dX8_init_69 : decode cX8_init 69 = .ok (.iconst 3, 1) := by decide +kernel
theorem dX8_init_70 : decode cX8_init 70 = .ok (.newarray .int, 2) := by decide +kernel
theorem dX8_init_72 : decode cX8_init 72 = .ok (.putfield 35, 3) := by decide +kernel
theorem dX8_init_75 : decode cX8_init 75 = .ok (.aload_n 0, 1) := by decide +kernel
theorem dX8_init_76 : decode cX8_init 76 = .ok (.bipush 18, 2) := by decide +kernel
theorem dX8_init_78 : decode cX8_init 78 = .ok (.newarray .int, 2) := by decide +kernel
theorem dX8_init_80 : decode cX8_init 80 = .ok (.putfield 38, 3) := by decide +kernel
theorem dX8_init_83 : decode cX8_init 83 = .ok (.aload_n 0, 1) := by decide +kernel
theorem dX8_init_84 : decode cX8_init 84 = .ok (.bipush 18, 2) := by decide +kernel
theorem dX8_init_86 : decode cX8_init 86 = .ok (.newarray .int, 2) := by decide +kernel
theorem dX8_init_88 : decode cX8_init 88 = .ok (.putfield 41, 3) := by decide +kernel
theorem dX8_init_91 : decode cX8_init 91 = .ok (.aload_n 0, 1) := by decide +kernel
theorem dX8_init_92 : decode cX8_init 92 = .ok (.bipush 18, 2) := by decide +kernel
theorem dX8_init_94 : decode cX8_init 94 = .ok (.newarray .int, 2) := by decide +kernel
theorem dX8_init_96 : decode cX8_init 96 = .ok (.putfield 44, 3) := by decide +kernel
theorem dX8_init_99 : decode cX8_init 99 = .ok (.aload_n 0, 1) := by decide +kernel
theorem dX8_init_100 : decode cX8_init 100 = .ok (.bipush 15, 2) := by decide +kernel
theorem dX8_init_102 : decode cX8_init 102 = .ok (.newarray .long, 2) := by decide +kernel
theorem dX8_init_104 : decode cX8_init 104 = .ok (.putfield 47, 3) := by decide +kernel
theorem dX8_init_107 : decode cX8_init 107 = .ok (.aload_n 0, 1) := by decide +kernel
theorem dX8_init_108 : decode cX8_init 108 = .ok (.bipush 15, 2) := by decide +kernel
theorem dX8_init_110 : decode cX8_init 110 = .ok (.newarray .long, 2) := by decide +kernel
theorem dX8_init_112 : decode cX8_init 112 = .ok (.putfield 51, 3) := by decide +kernel
theorem dX8_init_115 : decode cX8_init 115 = .ok (.return_, 1) := by decide +kernel
theorem dX8_in_0 : decode cX8_in 0 = .ok (.iload_n 0, 1) := by decide +kernel
theorem dX8_in_1 : decode cX8_in 1 = .ok (.iload_n 1, 1) := by decide +kernel
theorem dX8_in_2 : decode cX8_in 2 = .ok (.if_icmp .lt 12, 3) := by decide +kernel
theorem dX8_in_5 : decode cX8_in 5 = .ok (.iload_n 0, 1) := by decide +kernel
theorem dX8_in_6 : decode cX8_in 6 = .ok (.iload_n 2, 1) := by decide +kernel
theorem dX8_in_7 : decode cX8_in 7 = .ok (.if_icmp .gt 7, 3) := by decide +kernel
theorem dX8_in_10 : decode cX8_in 10 = .ok (.iconst 1, 1) := by decide +kernel
theorem dX8_in_11 : decode cX8_in 11 = .ok (.goto 4, 3) := by decide +kernel
theorem dX8_in_14 : decode cX8_in 14 = .ok (.iconst 0, 1) := by decide +kernel
theorem dX8_in_15 : decode cX8_in 15 = .ok (.ireturn, 1) := by decide +kernel
theorem dX8_layer_0 : decode cX8_layer 0 = .ok (.iload_n 1, 1) := by decide +kernel
theorem dX8_layer_1 : decode cX8_layer 1 = .ok (.iconst 1, 1) := by decide +kernel
theorem dX8_layer_2 : decode cX8_layer 2 = .ok (.bipush 50, 2) := by decide +kernel
theorem dX8_layer_4 : decode cX8_layer 4 = .ok (.invokestatic 54, 3) := by decide +kernel
theorem dX8_layer_7 : decode cX8_layer 7 = .ok (.ifCond .eq 24, 3) := by decide +kernel
theorem dX8_layer_10 : decode cX8_layer 10 = .ok (.iload_n 2, 1) := by decide +kernel
theorem dX8_layer_11 : decode cX8_layer 11 = .ok (.iconst 0, 1) := by decide +kernel
theorem dX8_layer_12 : decode cX8_layer 12 = .ok (.bipush 50, 2) := by decide +kernel
theorem dX8_layer_14 : decode cX8_layer 14 = .ok (.invokestatic 54, 3) := by decide +kernel
theorem dX8_layer_17 : decode cX8_layer 17 = .ok (.ifCond .eq 14, 3) := by decide +kernel
theorem dX8_layer_20 : decode cX8_layer 20 = .ok (.iload_n 3, 1) := by decide +kernel
theorem dX8_layer_21 : decode cX8_layer 21 = .ok (.iconst 0, 1) := by decide +kernel
theorem dX8_layer_22 : decode cX8_layer 22 = .ok (.sipush 1000, 3) := by decide +kernel
theorem dX8_layer_25 : decode cX8_layer 25 = .ok (.invokestatic 54, 3) := by decide +kernel
theorem dX8_layer_28 : decode cX8_layer 28 = .ok (.ifCond .ne 5, 3) := by decide +kernel
theorem dX8_layer_31 : decode cX8_layer 31 = .ok (.iconst (-1), 1) := by decide +kernel
theorem dX8_layer_32 : decode cX8_layer 32 = .ok (.ireturn, 1) := by decide +kernel
theorem dX8_layer_33 : decode cX8_layer 33 = .ok (.aload_n 0, 1) := by decide +kernel
theorem dX8_layer_34 : decode cX8_layer 34 = .ok (.getfield 58, 3) := by decide +kernel
theorem dX8_layer_37 : decode cX8_layer 37 = .ok (.bipush 6, 2) := by decide +kernel
theorem dX8_layer_39 : decode cX8_layer 39 = .ok (.if_icmp .ne 6, 3) := by decide +kernel
theorem dX8_layer_42 : decode cX8_layer 42 = .ok (.bipush (-3), 2) := by decide +kernel
theorem dX8_layer_44 : decode cX8_layer 44 = .ok (.ireturn, 1) := by decide +kernel
theorem dX8_layer_45 : decode cX8_layer 45 = .ok (.aload_n 0, 1) := by decide +kernel
theorem dX8_layer_46 : decode cX8_layer 46 = .ok (.getfield 7, 3) := by decide +kernel
theorem dX8_layer_49 : decode cX8_layer 49 = .ok (.aload_n 0, 1) := by decide +kernel
theorem dX8_layer_50 : decode cX8_layer 50 = .ok (.getfield 58, 3) := by decide +kernel
theorem dX8_layer_53 : decode cX8_layer 53 = .ok (.iload_n 1, 1) := by decide +kernel
theorem dX8_layer_54 : decode cX8_layer 54 = .ok (.iastore, 1) := by decide +kernel
theorem dX8_layer_55 : decode cX8_layer 55 = .ok (.aload_n 0, 1) := by decide +kernel
theorem dX8_layer_56 : decode cX8_layer 56 = .ok (.getfield 13, 3) := by decide +kernel
theorem dX8_layer_59 : decode cX8_layer 59 = .ok (.aload_n 0, 1) := by decide +kernel
theorem dX8_layer_60 : decode cX8_layer 60 = .ok (.getfield 58, 3) := by decide +kernel
theorem dX8_layer_63 : decode cX8_layer 63 = .ok (.iload_n 2, 1) := by decide +kernel
theorem dX8_layer_64 : decode cX8_layer 64 = .ok (.iastore, 1) := by decide +kernel
theorem dX8_layer_65 : decode cX8_layer 65 = .ok (.aload_n 0, 1) := by decide +kernel
theorem dX8_layer_66 : decode cX8_layer 66 = .ok (.getfield 16, 3) := by decide +kernel
theorem dX8_layer_69 : decode cX8_layer 69 = .ok (.aload_n 0, 1) := by decide +kernel
theorem dX8_layer_70 : decode cX8_layer 70 = .ok (.getfield 58, 3) := by decide +kernel
theorem dX8_layer_73 : decode cX8_layer 73 = .ok (.iload_n 3, 1) := by decide +kernel
theorem dX8_layer_74 : decode cX8_layer 74 = .ok (.iastore, 1) := by decide +kernel
theorem dX8_layer_75 : decode cX8_layer 75 = .ok (.aload_n 0, 1) := by decide +kernel
theorem dX8_layer_76 : decode cX8_layer 76 = .ok (.dup, 1) := by decide +kernel
theorem dX8_layer_77 : decode cX8_layer 77 = .ok (.getfield 58, 3) := by decide +kernel
theorem dX8_layer_80 : decode cX8_layer 80 = .ok (.iconst 1, 1) := by decide +kernel
theorem dX8_layer_81 : decode cX8_layer 81 = .ok (.iadd, 1) := by decide +kernel
theorem dX8_layer_82 : decode cX8_layer 82 = .ok (.putfield 58, 3) := by decide +kernel
theorem dX8_layer_85 : decode cX8_layer 85 = .ok (.aload_n 0, 1) := by decide +kernel
theorem dX8_layer_86 : decode cX8_layer 86 = .ok (.getfield 58, 3) := by decide +kernel
theorem dX8_layer_89 : decode cX8_layer 89 = .ok (.iconst 1, 1) := by decide +kernel
theorem dX8_layer_90 : decode cX8_layer 90 = .ok (.isub, 1) := by decide +kernel
theorem dX8_layer_91 : decode cX8_layer 91 = .ok (.ireturn, 1) := by decide +kernel
theorem dX8_change_0 : decode cX8_change 0 = .ok (.iload_n 1, 1) := by decide +kernel
theorem dX8_change_1 : decode cX8_change 1 = .ok (.iconst 0, 1) := by decide +kernel
theorem dX8_change_2 : decode cX8_change 2 = .ok (.aload_n 0, 1) := by decide +kernel
theorem dX8_change_3 : decode cX8_change 3 = .ok (.getfield 58, 3) := by decide +kernel
theorem dX8_change_6 : decode cX8_change 6 = .ok (.iconst 1, 1) := by decide +kernel
theorem dX8_change_7 : decode cX8_change 7 = .ok (.isub, 1) := by decide +kernel
theorem dX8_change_8 : decode cX8_change 8 = .ok (.invokestatic 54, 3) := by decide +kernel
theorem dX8_change_11 : decode cX8_change 11 = .ok (.ifCond .eq 32, 3) := by decide +kernel
theorem dX8_change_14 : decode cX8_change 14 = .ok (.iload_n 2, 1) := by decide +kernel
theorem dX8_change_15 : decode cX8_change 15 = .ok (.iconst 0, 1) := by decide +kernel
theorem dX8_change_16 : decode cX8_change 16 = .ok (.iconst 1, 1) := by decide +kernel
theorem dX8_change_17 : decode cX8_change 17 = .ok (.invokestatic 54, 3) := by decide +kernel
theorem dX8_change_20 : decode cX8_change 20 = .ok (.ifCond .eq 23, 3) := by decide +kernel
theorem dX8_change_23 : decode cX8_change 23 = .ok (.iload_n 3, 1) := by decide +kernel
theorem dX8_change_24 : decode cX8_change 24 = .ok (.iconst 0, 1) := by decide +kernel
theorem dX8_change_25 : decode cX8_change 25 = .ok (.iload_n 2, 1) := by decide +kernel
theorem dX8_change_26 : decode cX8_change 26 = .ok (.ifCond .ne 8, 3) := by decide +kernel
theorem dX8_change_29 : decode cX8_change 29 = .ok (.bipush 50, 2) := by decide +kernel
theorem dX8_change_31 : decode cX8_change 31 = .ok (.goto 6, 3) := by decide +kernel
theorem dX8_change_34 : decode cX8_change 34 = .ok (.sipush 1000, 3) := by decide +kernel
theorem dX8_change_37 : decode cX8_change 37 = .ok (.invokestatic 54, 3) := by decide +kernel
theorem dX8_change_40 : decode cX8_change 40 = .ok (.ifCond .ne 5, 3) := by decide +kernel
theorem dX8_change_43 : decode cX8_change 43 = .ok (.iconst (-1), 1) := by decide +kernel
theorem dX8_change_44 : decode cX8_change 44 = .ok (.ireturn, 1) := by decide +kernel
theorem dX8_change_45 : decode cX8_change 45 = .ok (.iload_n 2, 1) := by decide +kernel
theorem dX8_change_46 : decode cX8_change 46 = .ok (.ifCond .ne 12, 3) := by decide +kernel
theorem dX8_change_49 : decode cX8_change 49 = .ok (.aload_n 0, 1) := by decide +kernel
theorem dX8_change_50 : decode cX8_change 50 = .ok (.getfield 13, 3) := by decide +kernel
theorem dX8_change_53 : decode cX8_change 53 = .ok (.iload_n 1, 1) := by decide +kernel
theorem dX8_change_54 : decode cX8_change 54 = .ok (.iaload, 1) := by decide +kernel
theorem dX8_change_55 : decode cX8_change 55 = .ok (.goto 9, 3) := by decide +kernel
theorem dX8_change_58 : decode cX8_change 58 = .ok (.aload_n 0, 1) := by decide +kernel
theorem dX8_change_59 : decode cX8_change 59 = .ok (.getfield 16, 3) := by decide +kernel
theorem dX8_change_62 : decode cX8_change 62 = .ok (.iload_n 1, 1) := by decide +kernel
theorem dX8_change_63 : decode cX8_change 63 = .ok (.iaload, 1) := by decide +kernel
theorem dX8_change_64 : decode cX8_change 64 = .ok (.istore 4, 2) := by decide +kernel
theorem dX8_change_66 : decode cX8_change 66 = .ok (.aload_n 0, 1) := by decide +kernel
theorem dX8_change_67 : decode cX8_change 67 = .ok (.getfield 13, 3) := by decide +kernel
theorem dX8_change_70 : decode cX8_change 70 = .ok (.iload_n 1, 1) := by decide +kernel
theorem dX8_change_71 : decode cX8_change 71 = .ok (.iload_n 2, 1) := by decide +kernel
theorem dX8_change_72 : decode cX8_change 72 = .ok (.ifCond .ne 7, 3) := by decide +kernel
theorem dX8_change_75 : decode cX8_change 75 = .ok (.iload_n 3, 1) := by decide +kernel
theorem dX8_change_76 : decode cX8_change 76 = .ok (.goto 9, 3) := by decide +kernel
theorem dX8_change_79 : decode cX8_change 79 = .ok (.aload_n 0, 1) := by decide +kernel
theorem dX8_change_80 : decode cX8_change 80 = .ok (.getfield 13, 3) := by decide +kernel
theorem dX8_change_83 : decode cX8_change 83 = .ok (.iload_n 1, 1) := by decide +kernel
theorem dX8_change_84 : decode cX8_change 84 = .ok (.iaload, 1) := by decide +kernel
theorem dX8_change_85 : decode cX8_change 85 = .ok (.iastore, 1) := by decide +kernel
theorem dX8_change_86 : decode cX8_change 86 = .ok (.aload_n 0, 1) := by decide +kernel
theorem dX8_change_87 : decode cX8_change 87 = .ok (.getfield 16, 3) := by decide +kernel
theorem dX8_change_90 : decode cX8_change 90 = .ok (.iload_n 1, 1) := by decide +kernel
theorem dX8_change_91 : decode cX8_change 91 = .ok (.iload_n 2, 1) := by decide +kernel
theorem dX8_change_92 : decode cX8_change 92 = .ok (.iconst 1, 1) := by decide +kernel
theorem dX8_change_93 : decode cX8_change 93 = .ok (.if_icmp .ne 7, 3) := by decide +kernel
theorem dX8_change_96 : decode cX8_change 96 = .ok (.iload_n 3, 1) := by decide +kernel
theorem dX8_change_97 : decode cX8_change 97 = .ok (.goto 9, 3) := by decide +kernel
theorem dX8_change_100 : decode cX8_change 100 = .ok (.aload_n 0, 1) := by decide +kernel
theorem dX8_change_101 : decode cX8_change 101 = .ok (.getfield 16, 3) := by decide +kernel
theorem dX8_change_104 : decode cX8_change 104 = .ok (.iload_n 1, 1) := by decide +kernel
theorem dX8_change_105 : decode cX8_change 105 = .ok (.iaload, 1) := by decide +kernel
theorem dX8_change_106 : decode cX8_change 106 = .ok (.iastore, 1) := by decide +kernel
theorem dX8_change_107 : decode cX8_change 107 = .ok (.iload 4, 2) := by decide +kernel
theorem dX8_change_109 : decode cX8_change 109 = .ok (.ireturn, 1) := by decide +kernel
theorem dX8_rule_0 : decode cX8_rule 0 = .ok (.iload_n 1, 1) := by decide +kernel
theorem dX8_rule_1 : decode cX8_rule 1 = .ok (.iconst 0, 1) := by decide +kernel
theorem dX8_rule_2 : decode cX8_rule 2 = .ok (.iconst 1, 1) := by decide +kernel
theorem dX8_rule_3 : decode cX8_rule 3 = .ok (.invokestatic 54, 3) := by decide +kernel
theorem dX8_rule_6 : decode cX8_rule 6 = .ok (.ifCond .eq 22, 3) := by decide +kernel
theorem dX8_rule_9 : decode cX8_rule 9 = .ok (.iload_n 2, 1) := by decide +kernel
theorem dX8_rule_10 : decode cX8_rule 10 = .ok (.iconst 0, 1) := by decide +kernel
theorem dX8_rule_11 : decode cX8_rule 11 = .ok (.iload_n 1, 1) := by decide +kernel
theorem dX8_rule_12 : decode cX8_rule 12 = .ok (.ifCond .ne 8, 3) := by decide +kernel
theorem dX8_rule_15 : decode cX8_rule 15 = .ok (.bipush 20, 2) := by decide +kernel
theorem dX8_rule_17 : decode cX8_rule 17 = .ok (.goto 5, 3) := by decide +kernel
theorem dX8_rule_20 : decode cX8_rule 20 = .ok (.bipush 40, 2) := by decide +kernel
theorem dX8_rule_22 : decode cX8_rule 22 = .ok (.invokestatic 54, 3) := by decide +kernel
theorem dX8_rule_25 : decode cX8_rule 25 = .ok (.ifCond .ne 5, 3) := by decide +kernel
theorem dX8_rule_28 : decode cX8_rule 28 = .ok (.iconst (-1), 1) := by decide +kernel
theorem dX8_rule_29 : decode cX8_rule 29 = .ok (.ireturn, 1) := by decide +kernel
theorem dX8_rule_30 : decode cX8_rule 30 = .ok (.iload_n 1, 1) := by decide +kernel
theorem dX8_rule_31 : decode cX8_rule 31 = .ok (.ifCond .ne 10, 3) := by decide +kernel
theorem dX8_rule_34 : decode cX8_rule 34 = .ok (.aload_n 0, 1) := by decide +kernel
theorem dX8_rule_35 : decode cX8_rule 35 = .ok (.getfield 62, 3) := by decide +kernel
theorem dX8_rule_38 : decode cX8_rule 38 = .ok (.goto 7, 3) := by decide +kernel
theorem dX8_rule_41 : decode cX8_rule 41 = .ok (.aload_n 0, 1) := by decide +kernel
theorem dX8_rule_42 : decode cX8_rule 42 = .ok (.getfield 65, 3) := by decide +kernel
theorem dX8_rule_45 : decode cX8_rule 45 = .ok (.istore_n 3, 1) := by decide +kernel
theorem dX8_rule_46 : decode cX8_rule 46 = .ok (.aload_n 0, 1) := by decide +kernel
theorem dX8_rule_47 : decode cX8_rule 47 = .ok (.iload_n 1, 1) := by decide +kernel
theorem dX8_rule_48 : decode cX8_rule 48 = .ok (.ifCond .ne 7, 3) := by decide +kernel
theorem dX8_rule_51 : decode cX8_rule 51 = .ok (.iload_n 2, 1) := by decide +kernel
theorem dX8_rule_52 : decode cX8_rule 52 = .ok (.goto 7, 3) := by decide +kernel
theorem dX8_rule_55 : decode cX8_rule 55 = .ok (.aload_n 0, 1) := by decide +kernel
theorem dX8_rule_56 : decode cX8_rule 56 = .ok (.getfield 62, 3) := by decide +kernel
theorem dX8_rule_59 : decode cX8_rule 59 = .ok (.putfield 62, 3) := by decide +kernel
theorem dX8_rule_62 : decode cX8_rule 62 = .ok (.aload_n 0, 1) := by decide +kernel
theorem dX8_rule_63 : decode cX8_rule 63 = .ok (.iload_n 1, 1) := by decide +kernel
theorem dX8_rule_64 : decode cX8_rule 64 = .ok (.iconst 1, 1) := by decide +kernel
theorem dX8_rule_65 : decode cX8_rule 65 = .ok (.if_icmp .ne 7, 3) := by decide +kernel
theorem dX8_rule_68 : decode cX8_rule 68 = .ok (.iload_n 2, 1) := by decide +kernel
theorem dX8_rule_69 : decode cX8_rule 69 = .ok (.goto 7, 3) := by decide +kernel
theorem dX8_rule_72 : decode cX8_rule 72 = .ok (.aload_n 0, 1) := by decide +kernel
theorem dX8_rule_73 : decode cX8_rule 73 = .ok (.getfield 65, 3) := by decide +kernel
theorem dX8_rule_76 : decode cX8_rule 76 = .ok (.putfield 65, 3) := by decide +kernel
theorem dX8_rule_79 : decode cX8_rule 79 = .ok (.iload_n 3, 1) := by decide +kernel
theorem dX8_rule_80 : decode cX8_rule 80 = .ok (.ireturn, 1) := by decide +kernel
theorem dX8_layerOf_0 : decode cX8_layerOf 0 = .ok (.iload_n 1, 1) := by decide +kernel
theorem dX8_layerOf_1 : decode cX8_layerOf 1 = .ok (.istore_n 2, 1) := by decide +kernel
theorem dX8_layerOf_2 : decode cX8_layerOf 2 = .ok (.iconst 0, 1) := by decide +kernel
theorem dX8_layerOf_3 : decode cX8_layerOf 3 = .ok (.istore_n 3, 1) := by decide +kernel
theorem dX8_layerOf_4 : decode cX8_layerOf 4 = .ok (.iload_n 3, 1) := by decide +kernel
theorem dX8_layerOf_5 : decode cX8_layerOf 5 = .ok (.aload_n 0, 1) := by decide +kernel
theorem dX8_layerOf_6 : decode cX8_layerOf 6 = .ok (.getfield 58, 3) := by decide +kernel
theorem dX8_layerOf_9 : decode cX8_layerOf 9 = .ok (.iconst 1, 1) := by decide +kernel
theorem dX8_layerOf_10 : decode cX8_layerOf 10 = .ok (.isub, 1) := by decide +kernel
theorem dX8_layerOf_11 : decode cX8_layerOf 11 = .ok (.if_icmp .ge 28, 3) := by decide +kernel
theorem dX8_layerOf_14 : decode cX8_layerOf 14 = .ok (.iload_n 2, 1) := by decide +kernel
theorem dX8_layerOf_15 : decode cX8_layerOf 15 = .ok (.aload_n 0, 1) := by decide +kernel
theorem dX8_layerOf_16 : decode cX8_layerOf 16 = .ok (.getfield 7, 3) := by decide +kernel
theorem dX8_layerOf_19 : decode cX8_layerOf 19 = .ok (.iload_n 3, 1) := by decide +kernel
theorem dX8_layerOf_20 : decode cX8_layerOf 20 = .ok (.iaload, 1) := by decide +kernel
theorem dX8_layerOf_21 : decode cX8_layerOf 21 = .ok (.if_icmp .lt 18, 3) := by decide +kernel
theorem dX8_layerOf_24 : decode cX8_layerOf 24 = .ok (.iload_n 2, 1) := by decide +kernel
theorem dX8_layerOf_25 : decode cX8_layerOf 25 = .ok (.aload_n 0, 1) := by decide +kernel
theorem dX8_layerOf_26 : decode cX8_layerOf 26 = .ok (.getfield 7, 3) := by decide +kernel
theorem dX8_layerOf_29 : decode cX8_layerOf 29 = .ok (.iload_n 3, 1) := by decide +kernel
theorem dX8_layerOf_30 : decode cX8_layerOf 30 = .ok (.iaload, 1) := by decide +kernel
theorem dX8_layerOf_31 : decode cX8_layerOf 31 = .ok (.isub, 1) := by decide +kernel
theorem dX8_layerOf_32 : decode cX8_layerOf 32 = .ok (.istore_n 2, 1) := by decide +kernel
theorem dX8_layerOf_33 : decode cX8_layerOf 33 = .ok (.iinc 3 1, 3) := by decide +kernel
theorem dX8_layerOf_36 : decode cX8_layerOf 36 = .ok (.goto (-32), 3) := by decide +kernel
theorem dX8_layerOf_39 : decode cX8_layerOf 39 = .ok (.aload_n 0, 1) := by decide +kernel
theorem dX8_layerOf_40 : decode cX8_layerOf 40 = .ok (.getfield 58, 3) := by decide +kernel
theorem dX8_layerOf_43 : decode cX8_layerOf 43 = .ok (.ifCond .ne 7, 3) := by decide +kernel
theorem dX8_layerOf_46 : decode cX8_layerOf 46 = .ok (.iconst (-1), 1) := by decide +kernel
theorem dX8_layerOf_47 : decode cX8_layerOf 47 = .ok (.goto 4, 3) := by decide +kernel
theorem dX8_layerOf_50 : decode cX8_layerOf 50 = .ok (.iload_n 3, 1) := by decide +kernel
theorem dX8_layerOf_51 : decode cX8_layerOf 51 = .ok (.ireturn, 1) := by decide +kernel
theorem dX8_sideOf_0 : decode cX8_sideOf 0 = .ok (.aload_n 0, 1) := by decide +kernel
theorem dX8_sideOf_1 : decode cX8_sideOf 1 = .ok (.iload_n 1, 1) := by decide +kernel
theorem dX8_sideOf_2 : decode cX8_sideOf 2 = .ok (.invokevirtual 68, 3) := by decide +kernel
theorem dX8_sideOf_5 : decode cX8_sideOf 5 = .ok (.istore_n 2, 1) := by decide +kernel
theorem dX8_sideOf_6 : decode cX8_sideOf 6 = .ok (.iload_n 2, 1) := by decide +kernel
theorem dX8_sideOf_7 : decode cX8_sideOf 7 = .ok (.ifCond .lt 11, 3) := by decide +kernel
theorem dX8_sideOf_10 : decode cX8_sideOf 10 = .ok (.iload_n 1, 1) := by decide +kernel
theorem dX8_sideOf_11 : decode cX8_sideOf 11 = .ok (.aload_n 0, 1) := by decide +kernel
theorem dX8_sideOf_12 : decode cX8_sideOf 12 = .ok (.getfield 62, 3) := by decide +kernel
theorem dX8_sideOf_15 : decode cX8_sideOf 15 = .ok (.if_icmp .ge 7, 3) := by decide +kernel
theorem dX8_sideOf_18 : decode cX8_sideOf 18 = .ok (.iconst 0, 1) := by decide +kernel
theorem dX8_sideOf_19 : decode cX8_sideOf 19 = .ok (.goto 9, 3) := by decide +kernel
theorem dX8_sideOf_22 : decode cX8_sideOf 22 = .ok (.aload_n 0, 1) := by decide +kernel
theorem dX8_sideOf_23 : decode cX8_sideOf 23 = .ok (.getfield 13, 3) := by decide +kernel
theorem dX8_sideOf_26 : decode cX8_sideOf 26 = .ok (.iload_n 2, 1) := by decide +kernel
theorem dX8_sideOf_27 : decode cX8_sideOf 27 = .ok (.iaload, 1) := by decide +kernel
theorem dX8_sideOf_28 : decode cX8_sideOf 28 = .ok (.ireturn, 1) := by decide +kernel
theorem dX8_tipOf_0 : decode cX8_tipOf 0 = .ok (.aload_n 0, 1) := by decide +kernel
theorem dX8_tipOf_1 : decode cX8_tipOf 1 = .ok (.iload_n 1, 1) := by decide +kernel
theorem dX8_tipOf_2 : decode cX8_tipOf 2 = .ok (.invokevirtual 68, 3) := by decide +kernel
theorem dX8_tipOf_5 : decode cX8_tipOf 5 = .ok (.istore_n 2, 1) := by decide +kernel
theorem dX8_tipOf_6 : decode cX8_tipOf 6 = .ok (.iload_n 2, 1) := by decide +kernel
theorem dX8_tipOf_7 : decode cX8_tipOf 7 = .ok (.ifCond .ge 7, 3) := by decide +kernel
theorem dX8_tipOf_10 : decode cX8_tipOf 10 = .ok (.iconst 0, 1) := by decide +kernel
theorem dX8_tipOf_11 : decode cX8_tipOf 11 = .ok (.goto 9, 3) := by decide +kernel
theorem dX8_tipOf_14 : decode cX8_tipOf 14 = .ok (.aload_n 0, 1) := by decide +kernel
theorem dX8_tipOf_15 : decode cX8_tipOf 15 = .ok (.getfield 16, 3) := by decide +kernel
theorem dX8_tipOf_18 : decode cX8_tipOf 18 = .ok (.iload_n 2, 1) := by decide +kernel
theorem dX8_tipOf_19 : decode cX8_tipOf 19 = .ok (.iaload, 1) := by decide +kernel
theorem dX8_tipOf_20 : decode cX8_tipOf 20 = .ok (.ireturn, 1) := by decide +kernel
theorem dX8_pullOf_0 : decode cX8_pullOf 0 = .ok (.iconst 0, 1) := by decide +kernel
theorem dX8_pullOf_1 : decode cX8_pullOf 1 = .ok (.istore_n 2, 1) := by decide +kernel
theorem dX8_pullOf_2 : decode cX8_pullOf 2 = .ok (.iconst 0, 1) := by decide +kernel
theorem dX8_pullOf_3 : decode cX8_pullOf 3 = .ok (.istore_n 3, 1) := by decide +kernel
theorem dX8_pullOf_4 : decode cX8_pullOf 4 = .ok (.iload_n 3, 1) := by decide +kernel
theorem dX8_pullOf_5 : decode cX8_pullOf 5 = .ok (.iload_n 1, 1) := by decide +kernel
theorem dX8_pullOf_6 : decode cX8_pullOf 6 = .ok (.if_icmp .ge 17, 3) := by decide +kernel
theorem dX8_pullOf_9 : decode cX8_pullOf 9 = .ok (.iload_n 2, 1) := by decide +kernel
theorem dX8_pullOf_10 : decode cX8_pullOf 10 = .ok (.aload_n 0, 1) := by decide +kernel
theorem dX8_pullOf_11 : decode cX8_pullOf 11 = .ok (.iload_n 3, 1) := by decide +kernel
theorem dX8_pullOf_12 : decode cX8_pullOf 12 = .ok (.invokevirtual 72, 3) := by decide +kernel
theorem dX8_pullOf_15 : decode cX8_pullOf 15 = .ok (.iadd, 1) := by decide +kernel
theorem dX8_pullOf_16 : decode cX8_pullOf 16 = .ok (.istore_n 2, 1) := by decide +kernel
theorem dX8_pullOf_17 : decode cX8_pullOf 17 = .ok (.iinc 3 1, 3) := by decide +kernel
theorem dX8_pullOf_20 : decode cX8_pullOf 20 = .ok (.goto (-16), 3) := by decide +kernel
theorem dX8_pullOf_23 : decode cX8_pullOf 23 = .ok (.iload_n 2, 1) := by decide +kernel
theorem dX8_pullOf_24 : decode cX8_pullOf 24 = .ok (.ireturn, 1) := by decide +kernel
theorem dX8_isPile_0 : decode cX8_isPile 0 = .ok (.iload_n 1, 1) := by decide +kernel
theorem dX8_isPile_1 : decode cX8_isPile 1 = .ok (.iconst 0, 1) := by decide +kernel
theorem dX8_isPile_2 : decode cX8_isPile 2 = .ok (.aload_n 0, 1) := by decide +kernel
theorem dX8_isPile_3 : decode cX8_isPile 3 = .ok (.getfield 75, 3) := by decide +kernel
theorem dX8_isPile_6 : decode cX8_isPile 6 = .ok (.iconst 1, 1) := by decide +kernel
theorem dX8_isPile_7 : decode cX8_isPile 7 = .ok (.isub, 1) := by decide +kernel
theorem dX8_isPile_8 : decode cX8_isPile 8 = .ok (.invokestatic 54, 3) := by decide +kernel
theorem dX8_isPile_11 : decode cX8_isPile 11 = .ok (.ireturn, 1) := by decide +kernel
theorem dX8_isPlace_0 : decode cX8_isPlace 0 = .ok (.iload_n 0, 1) := by decide +kernel
theorem dX8_isPlace_1 : decode cX8_isPlace 1 = .ok (.bipush (-20), 2) := by decide +kernel
theorem dX8_isPlace_3 : decode cX8_isPlace 3 = .ok (.bipush 20, 2) := by decide +kernel
theorem dX8_isPlace_5 : decode cX8_isPlace 5 = .ok (.invokestatic 54, 3) := by decide +kernel
theorem dX8_isPlace_8 : decode cX8_isPlace 8 = .ok (.ifCond .eq 18, 3) := by decide +kernel
theorem dX8_isPlace_11 : decode cX8_isPlace 11 = .ok (.iload_n 1, 1) := by decide +kernel
theorem dX8_isPlace_12 : decode cX8_isPlace 12 = .ok (.bipush (-20), 2) := by decide +kernel
theorem dX8_isPlace_14 : decode cX8_isPlace 14 = .ok (.bipush 20, 2) := by decide +kernel
theorem dX8_isPlace_16 : decode cX8_isPlace 16 = .ok (.invokestatic 54, 3) := by decide +kernel
theorem dX8_isPlace_19 : decode cX8_isPlace 19 = .ok (.ifCond .eq 7, 3) := by decide +kernel
theorem dX8_isPlace_22 : decode cX8_isPlace 22 = .ok (.iconst 1, 1) := by decide +kernel
theorem dX8_isPlace_23 : decode cX8_isPlace 23 = .ok (.goto 4, 3) := by decide +kernel
theorem dX8_isPlace_26 : decode cX8_isPlace 26 = .ok (.iconst 0, 1) := by decide +kernel
theorem dX8_isPlace_27 : decode cX8_isPlace 27 = .ok (.ireturn, 1) := by decide +kernel
theorem dX8_pile_0 : decode cX8_pile 0 = .ok (.iload_n 1, 1) := by decide +kernel
theorem dX8_pile_1 : decode cX8_pile 1 = .ok (.iload_n 2, 1) := by decide +kernel
theorem dX8_pile_2 : decode cX8_pile 2 = .ok (.invokestatic 78, 3) := by decide +kernel
theorem dX8_pile_5 : decode cX8_pile 5 = .ok (.ifCond .eq 24, 3) := by decide +kernel
theorem dX8_pile_8 : decode cX8_pile 8 = .ok (.iload_n 3, 1) := by decide +kernel
theorem dX8_pile_9 : decode cX8_pile 9 = .ok (.iconst 1, 1) := by decide +kernel
theorem dX8_pile_10 : decode cX8_pile 10 = .ok (.bipush 100, 2) := by decide +kernel
theorem dX8_pile_12 : decode cX8_pile 12 = .ok (.invokestatic 54, 3) := by decide +kernel
theorem dX8_pile_15 : decode cX8_pile 15 = .ok (.ifCond .eq 14, 3) := by decide +kernel
theorem dX8_pile_18 : decode cX8_pile 18 = .ok (.iload 4, 2) := by decide +kernel
theorem dX8_pile_20 : decode cX8_pile 20 = .ok (.iconst 1, 1) := by decide +kernel
theorem dX8_pile_21 : decode cX8_pile 21 = .ok (.bipush 20, 2) := by decide +kernel
theorem dX8_pile_23 : decode cX8_pile 23 = .ok (.invokestatic 54, 3) := by decide +kernel
theorem dX8_pile_26 : decode cX8_pile 26 = .ok (.ifCond .ne 5, 3) := by decide +kernel
theorem dX8_pile_29 : decode cX8_pile 29 = .ok (.iconst (-1), 1) := by decide +kernel
theorem dX8_pile_30 : decode cX8_pile 30 = .ok (.ireturn, 1) := by decide +kernel
theorem dX8_pile_31 : decode cX8_pile 31 = .ok (.aload_n 0, 1) := by decide +kernel
theorem dX8_pile_32 : decode cX8_pile 32 = .ok (.getfield 75, 3) := by decide +kernel
theorem dX8_pile_35 : decode cX8_pile 35 = .ok (.bipush 12, 2) := by decide +kernel
theorem dX8_pile_37 : decode cX8_pile 37 = .ok (.if_icmp .ne 6, 3) := by decide +kernel
theorem dX8_pile_40 : decode cX8_pile 40 = .ok (.bipush (-3), 2) := by decide +kernel
theorem dX8_pile_42 : decode cX8_pile 42 = .ok (.ireturn, 1) := by decide +kernel
theorem dX8_pile_43 : decode cX8_pile 43 = .ok (.aload_n 0, 1) := by decide +kernel
theorem dX8_pile_44 : decode cX8_pile 44 = .ok (.getfield 19, 3) := by decide +kernel
theorem dX8_pile_47 : decode cX8_pile 47 = .ok (.aload_n 0, 1) := by decide +kernel
theorem dX8_pile_48 : decode cX8_pile 48 = .ok (.getfield 75, 3) := by decide +kernel
theorem dX8_pile_51 : decode cX8_pile 51 = .ok (.iload_n 1, 1) := by decide +kernel
theorem dX8_pile_52 : decode cX8_pile 52 = .ok (.iastore, 1) := by decide +kernel
theorem dX8_pile_53 : decode cX8_pile 53 = .ok (.aload_n 0, 1) := by decide +kernel
theorem dX8_pile_54 : decode cX8_pile 54 = .ok (.getfield 22, 3) := by decide +kernel
theorem dX8_pile_57 : decode cX8_pile 57 = .ok (.aload_n 0, 1) := by decide +kernel
theorem dX8_pile_58 : decode cX8_pile 58 = .ok (.getfield 75, 3) := by decide +kernel
theorem dX8_pile_61 : decode cX8_pile 61 = .ok (.iload_n 2, 1) := by decide +kernel
theorem dX8_pile_62 : decode cX8_pile 62 = .ok (.iastore, 1) := by decide +kernel
theorem dX8_pile_63 : decode cX8_pile 63 = .ok (.aload_n 0, 1) := by decide +kernel
theorem dX8_pile_64 : decode cX8_pile 64 = .ok (.getfield 25, 3) := by decide +kernel
theorem dX8_pile_67 : decode cX8_pile 67 = .ok (.aload_n 0, 1) := by decide +kernel
theorem dX8_pile_68 : decode cX8_pile 68 = .ok (.getfield 75, 3) := by decide +kernel
theorem dX8_pile_71 : decode cX8_pile 71 = .ok (.iload_n 3, 1) := by decide +kernel
theorem dX8_pile_72 : decode cX8_pile 72 = .ok (.iastore, 1) := by decide +kernel
theorem dX8_pile_73 : decode cX8_pile 73 = .ok (.aload_n 0, 1) := by decide +kernel
theorem dX8_pile_74 : decode cX8_pile 74 = .ok (.getfield 28, 3) := by decide +kernel
theorem dX8_pile_77 : decode cX8_pile 77 = .ok (.aload_n 0, 1) := by decide +kernel
theorem dX8_pile_78 : decode cX8_pile 78 = .ok (.getfield 75, 3) := by decide +kernel
theorem dX8_pile_81 : decode cX8_pile 81 = .ok (.iload 4, 2) := by decide +kernel
theorem dX8_pile_83 : decode cX8_pile 83 = .ok (.iastore, 1) := by decide +kernel
theorem dX8_pile_84 : decode cX8_pile 84 = .ok (.aload_n 0, 1) := by decide +kernel
theorem dX8_pile_85 : decode cX8_pile 85 = .ok (.getfield 31, 3) := by decide +kernel
theorem dX8_pile_88 : decode cX8_pile 88 = .ok (.aload_n 0, 1) := by decide +kernel
theorem dX8_pile_89 : decode cX8_pile 89 = .ok (.getfield 75, 3) := by decide +kernel
theorem dX8_pile_92 : decode cX8_pile 92 = .ok (.iconst 1, 1) := by decide +kernel
theorem dX8_pile_93 : decode cX8_pile 93 = .ok (.bastore, 1) := by decide +kernel
theorem dX8_pile_94 : decode cX8_pile 94 = .ok (.aload_n 0, 1) := by decide +kernel
theorem dX8_pile_95 : decode cX8_pile 95 = .ok (.dup, 1) := by decide +kernel
theorem dX8_pile_96 : decode cX8_pile 96 = .ok (.getfield 75, 3) := by decide +kernel
theorem dX8_pile_99 : decode cX8_pile 99 = .ok (.iconst 1, 1) := by decide +kernel
theorem dX8_pile_100 : decode cX8_pile 100 = .ok (.iadd, 1) := by decide +kernel
theorem dX8_pile_101 : decode cX8_pile 101 = .ok (.putfield 75, 3) := by decide +kernel
theorem dX8_pile_104 : decode cX8_pile 104 = .ok (.aload_n 0, 1) := by decide +kernel
theorem dX8_pile_105 : decode cX8_pile 105 = .ok (.getfield 75, 3) := by decide +kernel
theorem dX8_pile_108 : decode cX8_pile 108 = .ok (.iconst 1, 1) := by decide +kernel
theorem dX8_pile_109 : decode cX8_pile 109 = .ok (.isub, 1) := by decide +kernel
theorem dX8_pile_110 : decode cX8_pile 110 = .ok (.ireturn, 1) := by decide +kernel
theorem dX8_shift_0 : decode cX8_shift 0 = .ok (.aload_n 0, 1) := by decide +kernel
theorem dX8_shift_1 : decode cX8_shift 1 = .ok (.iload_n 1, 1) := by decide +kernel
theorem dX8_shift_2 : decode cX8_shift 2 = .ok (.invokevirtual 82, 3) := by decide +kernel
theorem dX8_shift_5 : decode cX8_shift 5 = .ok (.ifCond .eq 11, 3) := by decide +kernel
theorem dX8_shift_8 : decode cX8_shift 8 = .ok (.iload_n 2, 1) := by decide +kernel
theorem dX8_shift_9 : decode cX8_shift 9 = .ok (.iload_n 3, 1) := by decide +kernel
theorem dX8_shift_10 : decode cX8_shift 10 = .ok (.invokestatic 78, 3) := by decide +kernel
theorem dX8_shift_13 : decode cX8_shift 13 = .ok (.ifCond .ne 5, 3) := by decide +kernel
theorem dX8_shift_16 : decode cX8_shift 16 = .ok (.iconst (-1), 1) := by decide +kernel
theorem dX8_shift_17 : decode cX8_shift 17 = .ok (.ireturn, 1) := by decide +kernel
theorem dX8_shift_18 : decode cX8_shift 18 = .ok (.aload_n 0, 1) := by decide +kernel
theorem dX8_shift_19 : decode cX8_shift 19 = .ok (.getfield 19, 3) := by decide +kernel
theorem dX8_shift_22 : decode cX8_shift 22 = .ok (.iload_n 1, 1) := by decide +kernel
theorem dX8_shift_23 : decode cX8_shift 23 = .ok (.iload_n 2, 1) := by decide +kernel
theorem dX8_shift_24 : decode cX8_shift 24 = .ok (.iastore, 1) := by decide +kernel
theorem dX8_shift_25 : decode cX8_shift 25 = .ok (.aload_n 0, 1) := by decide +kernel
theorem dX8_shift_26 : decode cX8_shift 26 = .ok (.getfield 22, 3) := by decide +kernel
theorem dX8_shift_29 : decode cX8_shift 29 = .ok (.iload_n 1, 1) := by decide +kernel
theorem dX8_shift_30 : decode cX8_shift 30 = .ok (.iload_n 3, 1) := by decide +kernel
theorem dX8_shift_31 : decode cX8_shift 31 = .ok (.iastore, 1) := by decide +kernel
theorem dX8_shift_32 : decode cX8_shift 32 = .ok (.iconst 0, 1) := by decide +kernel
theorem dX8_shift_33 : decode cX8_shift 33 = .ok (.ireturn, 1) := by decide +kernel
theorem dX8_whole_0 : decode cX8_whole 0 = .ok (.aload_n 0, 1) := by decide +kernel
theorem dX8_whole_1 : decode cX8_whole 1 = .ok (.iload_n 1, 1) := by decide +kernel
theorem dX8_whole_2 : decode cX8_whole 2 = .ok (.invokevirtual 82, 3) := by decide +kernel
theorem dX8_whole_5 : decode cX8_whole 5 = .ok (.ifCond .ne 5, 3) := by decide +kernel
theorem dX8_whole_8 : decode cX8_whole 8 = .ok (.iconst (-1), 1) := by decide +kernel
theorem dX8_whole_9 : decode cX8_whole 9 = .ok (.ireturn, 1) := by decide +kernel
theorem dX8_whole_10 : decode cX8_whole 10 = .ok (.aload_n 0, 1) := by decide +kernel
theorem dX8_whole_11 : decode cX8_whole 11 = .ok (.getfield 31, 3) := by decide +kernel
theorem dX8_whole_14 : decode cX8_whole 14 = .ok (.iload_n 1, 1) := by decide +kernel
theorem dX8_whole_15 : decode cX8_whole 15 = .ok (.baload, 1) := by decide +kernel
theorem dX8_whole_16 : decode cX8_whole 16 = .ok (.ifCond .eq 7, 3) := by decide +kernel
theorem dX8_whole_19 : decode cX8_whole 19 = .ok (.iconst 1, 1) := by decide +kernel
theorem dX8_whole_20 : decode cX8_whole 20 = .ok (.goto 4, 3) := by decide +kernel
theorem dX8_whole_23 : decode cX8_whole 23 = .ok (.iconst 0, 1) := by decide +kernel
theorem dX8_whole_24 : decode cX8_whole 24 = .ok (.istore_n 3, 1) := by decide +kernel
theorem dX8_whole_25 : decode cX8_whole 25 = .ok (.aload_n 0, 1) := by decide +kernel
theorem dX8_whole_26 : decode cX8_whole 26 = .ok (.getfield 31, 3) := by decide +kernel
theorem dX8_whole_29 : decode cX8_whole 29 = .ok (.iload_n 1, 1) := by decide +kernel
theorem dX8_whole_30 : decode cX8_whole 30 = .ok (.iload_n 2, 1) := by decide +kernel
theorem dX8_whole_31 : decode cX8_whole 31 = .ok (.bastore, 1) := by decide +kernel
theorem dX8_whole_32 : decode cX8_whole 32 = .ok (.iload_n 3, 1) := by decide +kernel
theorem dX8_whole_33 : decode cX8_whole 33 = .ok (.ireturn, 1) := by decide +kernel
theorem dX8_bearingOf_0 : decode cX8_bearingOf 0 = .ok (.aload_n 0, 1) := by decide +kernel
theorem dX8_bearingOf_1 : decode cX8_bearingOf 1 = .ok (.aload_n 0, 1) := by decide +kernel
theorem dX8_bearingOf_2 : decode cX8_bearingOf 2 = .ok (.getfield 25, 3) := by decide +kernel
theorem dX8_bearingOf_5 : decode cX8_bearingOf 5 = .ok (.iload_n 1, 1) := by decide +kernel
theorem dX8_bearingOf_6 : decode cX8_bearingOf 6 = .ok (.iaload, 1) := by decide +kernel
theorem dX8_bearingOf_7 : decode cX8_bearingOf 7 = .ok (.invokevirtual 86, 3) := by decide +kernel
theorem dX8_bearingOf_10 : decode cX8_bearingOf 10 = .ok (.aload_n 0, 1) := by decide +kernel
theorem dX8_bearingOf_11 : decode cX8_bearingOf 11 = .ok (.aload_n 0, 1) := by decide +kernel
theorem dX8_bearingOf_12 : decode cX8_bearingOf 12 = .ok (.getfield 25, 3) := by decide +kernel
theorem dX8_bearingOf_15 : decode cX8_bearingOf 15 = .ok (.iload_n 1, 1) := by decide +kernel
theorem dX8_bearingOf_16 : decode cX8_bearingOf 16 = .ok (.iaload, 1) := by decide +kernel
theorem dX8_bearingOf_17 : decode cX8_bearingOf 17 = .ok (.invokevirtual 89, 3) := by decide +kernel
theorem dX8_bearingOf_20 : decode cX8_bearingOf 20 = .ok (.iadd, 1) := by decide +kernel
theorem dX8_bearingOf_21 : decode cX8_bearingOf 21 = .ok (.ireturn, 1) := by decide +kernel
theorem dX8_about_0 : decode cX8_about 0 = .ok (.aload_n 0, 1) := by decide +kernel
theorem dX8_about_1 : decode cX8_about 1 = .ok (.iload_n 1, 1) := by decide +kernel
theorem dX8_about_2 : decode cX8_about 2 = .ok (.invokevirtual 82, 3) := by decide +kernel
theorem dX8_about_5 : decode cX8_about 5 = .ok (.ifCond .eq 13, 3) := by decide +kernel
theorem dX8_about_8 : decode cX8_about 8 = .ok (.iload_n 2, 1) := by decide +kernel
theorem dX8_about_9 : decode cX8_about 9 = .ok (.iconst 0, 1) := by decide +kernel
theorem dX8_about_10 : decode cX8_about 10 = .ok (.bipush 6, 2) := by decide +kernel
theorem dX8_about_12 : decode cX8_about 12 = .ok (.invokestatic 54, 3) := by decide +kernel
theorem dX8_about_15 : decode cX8_about 15 = .ok (.ifCond .ne 7, 3) := by decide +kernel
theorem dX8_about_18 : decode cX8_about 18 = .ok (.sipush (-1000), 3) := by decide +kernel
theorem dX8_about_21 : decode cX8_about 21 = .ok (.ireturn, 1) := by decide +kernel
theorem dX8_about_22 : decode cX8_about 22 = .ok (.iload_n 2, 1) := by decide +kernel
theorem dX8_about_23 : decode cX8_about 23 = .ok (.tableswitch 91 0 5 #[37, 44, 51, 58, 65, 80], 37) := by decide +kernel
theorem dX8_about_60 : decode cX8_about 60 = .ok (.aload_n 0, 1) := by decide +kernel
theorem dX8_about_61 : decode cX8_about 61 = .ok (.getfield 19, 3) := by decide +kernel
theorem dX8_about_64 : decode cX8_about 64 = .ok (.iload_n 1, 1) := by decide +kernel
theorem dX8_about_65 : decode cX8_about 65 = .ok (.iaload, 1) := by decide +kernel
theorem dX8_about_66 : decode cX8_about 66 = .ok (.ireturn, 1) := by decide +kernel
theorem dX8_about_67 : decode cX8_about 67 = .ok (.aload_n 0, 1) := by decide +kernel
theorem dX8_about_68 : decode cX8_about 68 = .ok (.getfield 22, 3) := by decide +kernel
theorem dX8_about_71 : decode cX8_about 71 = .ok (.iload_n 1, 1) := by decide +kernel
theorem dX8_about_72 : decode cX8_about 72 = .ok (.iaload, 1) := by decide +kernel
theorem dX8_about_73 : decode cX8_about 73 = .ok (.ireturn, 1) := by decide +kernel
theorem dX8_about_74 : decode cX8_about 74 = .ok (.aload_n 0, 1) := by decide +kernel
theorem dX8_about_75 : decode cX8_about 75 = .ok (.getfield 25, 3) := by decide +kernel
theorem dX8_about_78 : decode cX8_about 78 = .ok (.iload_n 1, 1) := by decide +kernel
theorem dX8_about_79 : decode cX8_about 79 = .ok (.iaload, 1) := by decide +kernel
theorem dX8_about_80 : decode cX8_about 80 = .ok (.ireturn, 1) := by decide +kernel
theorem dX8_about_81 : decode cX8_about 81 = .ok (.aload_n 0, 1) := by decide +kernel
theorem dX8_about_82 : decode cX8_about 82 = .ok (.getfield 28, 3) := by decide +kernel
theorem dX8_about_85 : decode cX8_about 85 = .ok (.iload_n 1, 1) := by decide +kernel
theorem dX8_about_86 : decode cX8_about 86 = .ok (.iaload, 1) := by decide +kernel
theorem dX8_about_87 : decode cX8_about 87 = .ok (.ireturn, 1) := by decide +kernel
theorem dX8_about_88 : decode cX8_about 88 = .ok (.aload_n 0, 1) := by decide +kernel
theorem dX8_about_89 : decode cX8_about 89 = .ok (.getfield 31, 3) := by decide +kernel
theorem dX8_about_92 : decode cX8_about 92 = .ok (.iload_n 1, 1) := by decide +kernel
theorem dX8_about_93 : decode cX8_about 93 = .ok (.baload, 1) := by decide +kernel
theorem dX8_about_94 : decode cX8_about 94 = .ok (.ifCond .eq 7, 3) := by decide +kernel
theorem dX8_about_97 : decode cX8_about 97 = .ok (.iconst 1, 1) := by decide +kernel
theorem dX8_about_98 : decode cX8_about 98 = .ok (.goto 4, 3) := by decide +kernel
theorem dX8_about_101 : decode cX8_about 101 = .ok (.iconst 0, 1) := by decide +kernel
theorem dX8_about_102 : decode cX8_about 102 = .ok (.ireturn, 1) := by decide +kernel
theorem dX8_about_103 : decode cX8_about 103 = .ok (.aload_n 0, 1) := by decide +kernel
theorem dX8_about_104 : decode cX8_about 104 = .ok (.aload_n 0, 1) := by decide +kernel
theorem dX8_about_105 : decode cX8_about 105 = .ok (.getfield 25, 3) := by decide +kernel
theorem dX8_about_108 : decode cX8_about 108 = .ok (.iload_n 1, 1) := by decide +kernel
theorem dX8_about_109 : decode cX8_about 109 = .ok (.iaload, 1) := by decide +kernel
theorem dX8_about_110 : decode cX8_about 110 = .ok (.invokevirtual 86, 3) := by decide +kernel
theorem dX8_about_113 : decode cX8_about 113 = .ok (.ireturn, 1) := by decide +kernel
theorem dX8_about_114 : decode cX8_about 114 = .ok (.aload_n 0, 1) := by decide +kernel
theorem dX8_about_115 : decode cX8_about 115 = .ok (.iload_n 1, 1) := by decide +kernel
theorem dX8_about_116 : decode cX8_about 116 = .ok (.invokevirtual 92, 3) := by decide +kernel
theorem dX8_about_119 : decode cX8_about 119 = .ok (.ireturn, 1) := by decide +kernel
theorem dX8_isCase_0 : decode cX8_isCase 0 = .ok (.iload_n 0, 1) := by decide +kernel
theorem dX8_isCase_1 : decode cX8_isCase 1 = .ok (.iconst 0, 1) := by decide +kernel
theorem dX8_isCase_2 : decode cX8_isCase 2 = .ok (.iconst 2, 1) := by decide +kernel
theorem dX8_isCase_3 : decode cX8_isCase 3 = .ok (.invokestatic 54, 3) := by decide +kernel
theorem dX8_isCase_6 : decode cX8_isCase 6 = .ok (.ireturn, 1) := by decide +kernel
theorem dX8_load_0 : decode cX8_load 0 = .ok (.iload_n 1, 1) := by decide +kernel
theorem dX8_load_1 : decode cX8_load 1 = .ok (.invokestatic 95, 3) := by decide +kernel
theorem dX8_load_4 : decode cX8_load 4 = .ok (.ifCond .eq 25, 3) := by decide +kernel
theorem dX8_load_7 : decode cX8_load 7 = .ok (.iload_n 2, 1) := by decide +kernel
theorem dX8_load_8 : decode cX8_load 8 = .ok (.sipush (-500), 3) := by decide +kernel
theorem dX8_load_11 : decode cX8_load 11 = .ok (.sipush 500, 3) := by decide +kernel
theorem dX8_load_14 : decode cX8_load 14 = .ok (.invokestatic 54, 3) := by decide +kernel
theorem dX8_load_17 : decode cX8_load 17 = .ok (.ifCond .eq 12, 3) := by decide +kernel
theorem dX8_load_20 : decode cX8_load 20 = .ok (.iload_n 3, 1) := by decide +kernel
theorem dX8_load_21 : decode cX8_load 21 = .ok (.iload 4, 2) := by decide +kernel
theorem dX8_load_23 : decode cX8_load 23 = .ok (.invokestatic 78, 3) := by decide +kernel
theorem dX8_load_26 : decode cX8_load 26 = .ok (.ifCond .ne 5, 3) := by decide +kernel
theorem dX8_load_29 : decode cX8_load 29 = .ok (.iconst (-1), 1) := by decide +kernel
theorem dX8_load_30 : decode cX8_load 30 = .ok (.ireturn, 1) := by decide +kernel
theorem dX8_load_31 : decode cX8_load 31 = .ok (.aload_n 0, 1) := by decide +kernel
theorem dX8_load_32 : decode cX8_load 32 = .ok (.getfield 35, 3) := by decide +kernel
theorem dX8_load_35 : decode cX8_load 35 = .ok (.iload_n 1, 1) := by decide +kernel
theorem dX8_load_36 : decode cX8_load 36 = .ok (.iaload, 1) := by decide +kernel
theorem dX8_load_37 : decode cX8_load 37 = .ok (.bipush 6, 2) := by decide +kernel
theorem dX8_load_39 : decode cX8_load 39 = .ok (.if_icmp .ne 6, 3) := by decide +kernel
theorem dX8_load_42 : decode cX8_load 42 = .ok (.bipush (-3), 2) := by decide +kernel
theorem dX8_load_44 : decode cX8_load 44 = .ok (.ireturn, 1) := by decide +kernel
theorem dX8_load_45 : decode cX8_load 45 = .ok (.bipush 6, 2) := by decide +kernel
theorem dX8_load_47 : decode cX8_load 47 = .ok (.iload_n 1, 1) := by decide +kernel
theorem dX8_load_48 : decode cX8_load 48 = .ok (.imul, 1) := by decide +kernel
theorem dX8_load_49 : decode cX8_load 49 = .ok (.aload_n 0, 1) := by decide +kernel
theorem dX8_load_50 : decode cX8_load 50 = .ok (.getfield 35, 3) := by decide +kernel
theorem dX8_load_53 : decode cX8_load 53 = .ok (.iload_n 1, 1) := by decide +kernel
theorem dX8_load_54 : decode cX8_load 54 = .ok (.iaload, 1) := by decide +kernel
theorem dX8_load_55 : decode cX8_load 55 = .ok (.iadd, 1) := by decide +kernel
theorem dX8_load_56 : decode cX8_load 56 = .ok (.istore 5, 2) := by decide +kernel
theorem dX8_load_58 : decode cX8_load 58 = .ok (.aload_n 0, 1) := by decide +kernel
theorem dX8_load_59 : decode cX8_load 59 = .ok (.getfield 38, 3) := by decide +kernel
theorem dX8_load_62 : decode cX8_load 62 = .ok (.iload 5, 2) := by decide +kernel
theorem dX8_load_64 : decode cX8_load 64 = .ok (.iload_n 2, 1) := by decide +kernel
theorem dX8_load_65 : decode cX8_load 65 = .ok (.iastore, 1) := by decide +kernel
theorem dX8_load_66 : decode cX8_load 66 = .ok (.aload_n 0, 1) := by decide +kernel
theorem dX8_load_67 : decode cX8_load 67 = .ok (.getfield 41, 3) := by decide +kernel
theorem dX8_load_70 : decode cX8_load 70 = .ok (.iload 5, 2) := by decide +kernel
theorem dX8_load_72 : decode cX8_load 72 = .ok (.iload_n 3, 1) := by decide +kernel
theorem dX8_load_73 : decode cX8_load 73 = .ok (.iastore, 1) := by decide +kernel
theorem dX8_load_74 : decode cX8_load 74 = .ok (.aload_n 0, 1) := by decide +kernel
theorem dX8_load_75 : decode cX8_load 75 = .ok (.getfield 44, 3) := by decide +kernel
theorem dX8_load_78 : decode cX8_load 78 = .ok (.iload 5, 2) := by decide +kernel
theorem dX8_load_80 : decode cX8_load 80 = .ok (.iload 4, 2) := by decide +kernel
theorem dX8_load_82 : decode cX8_load 82 = .ok (.iastore, 1) := by decide +kernel
theorem dX8_load_83 : decode cX8_load 83 = .ok (.aload_n 0, 1) := by decide +kernel
theorem dX8_load_84 : decode cX8_load 84 = .ok (.getfield 35, 3) := by decide +kernel
theorem dX8_load_87 : decode cX8_load 87 = .ok (.iload_n 1, 1) := by decide +kernel
theorem dX8_load_88 : decode cX8_load 88 = .ok (.dup2, 1) := by decide +kernel
theorem dX8_load_89 : decode cX8_load 89 = .ok (.iaload, 1) := by decide +kernel
theorem dX8_load_90 : decode cX8_load 90 = .ok (.iconst 1, 1) := by decide +kernel
theorem dX8_load_91 : decode cX8_load 91 = .ok (.iadd, 1) := by decide +kernel
theorem dX8_load_92 : decode cX8_load 92 = .ok (.iastore, 1) := by decide +kernel
theorem dX8_load_93 : decode cX8_load 93 = .ok (.aload_n 0, 1) := by decide +kernel
theorem dX8_load_94 : decode cX8_load 94 = .ok (.getfield 35, 3) := by decide +kernel
theorem dX8_load_97 : decode cX8_load 97 = .ok (.iload_n 1, 1) := by decide +kernel
theorem dX8_load_98 : decode cX8_load 98 = .ok (.iaload, 1) := by decide +kernel
theorem dX8_load_99 : decode cX8_load 99 = .ok (.ireturn, 1) := by decide +kernel
theorem dX8_noLoads_0 : decode cX8_noLoads 0 = .ok (.iload_n 1, 1) := by decide +kernel
theorem dX8_noLoads_1 : decode cX8_noLoads 1 = .ok (.invokestatic 95, 3) := by decide +kernel
theorem dX8_noLoads_4 : decode cX8_noLoads 4 = .ok (.ifCond .ne 5, 3) := by decide +kernel
theorem dX8_noLoads_7 : decode cX8_noLoads 7 = .ok (.iconst (-1), 1) := by decide +kernel
theorem dX8_noLoads_8 : decode cX8_noLoads 8 = .ok (.ireturn, 1) := by decide +kernel
theorem dX8_noLoads_9 : decode cX8_noLoads 9 = .ok (.aload_n 0, 1) := by decide +kernel
theorem dX8_noLoads_10 : decode cX8_noLoads 10 = .ok (.getfield 35, 3) := by decide +kernel
theorem dX8_noLoads_13 : decode cX8_noLoads 13 = .ok (.iload_n 1, 1) := by decide +kernel
theorem dX8_noLoads_14 : decode cX8_noLoads 14 = .ok (.iaload, 1) := by decide +kernel
theorem dX8_noLoads_15 : decode cX8_noLoads 15 = .ok (.istore_n 2, 1) := by decide +kernel
theorem dX8_noLoads_16 : decode cX8_noLoads 16 = .ok (.aload_n 0, 1) := by decide +kernel
theorem dX8_noLoads_17 : decode cX8_noLoads 17 = .ok (.getfield 35, 3) := by decide +kernel
theorem dX8_noLoads_20 : decode cX8_noLoads 20 = .ok (.iload_n 1, 1) := by decide +kernel
theorem dX8_noLoads_21 : decode cX8_noLoads 21 = .ok (.iconst 0, 1) := by decide +kernel
theorem dX8_noLoads_22 : decode cX8_noLoads 22 = .ok (.iastore, 1) := by decide +kernel
theorem dX8_noLoads_23 : decode cX8_noLoads 23 = .ok (.iload_n 2, 1) := by decide +kernel
theorem dX8_noLoads_24 : decode cX8_noLoads 24 = .ok (.ireturn, 1) := by decide +kernel
theorem dX8_wholeSet_0 : decode cX8_wholeSet 0 = .ok (.iconst 0, 1) := by decide +kernel
theorem dX8_wholeSet_1 : decode cX8_wholeSet 1 = .ok (.istore_n 1, 1) := by decide +kernel
theorem dX8_wholeSet_2 : decode cX8_wholeSet 2 = .ok (.iconst 0, 1) := by decide +kernel
theorem dX8_wholeSet_3 : decode cX8_wholeSet 3 = .ok (.istore_n 2, 1) := by decide +kernel
theorem dX8_wholeSet_4 : decode cX8_wholeSet 4 = .ok (.iload_n 2, 1) := by decide +kernel
theorem dX8_wholeSet_5 : decode cX8_wholeSet 5 = .ok (.aload_n 0, 1) := by decide +kernel
theorem dX8_wholeSet_6 : decode cX8_wholeSet 6 = .ok (.getfield 75, 3) := by decide +kernel
theorem dX8_wholeSet_9 : decode cX8_wholeSet 9 = .ok (.if_icmp .ge 28, 3) := by decide +kernel
theorem dX8_wholeSet_12 : decode cX8_wholeSet 12 = .ok (.iload_n 1, 1) := by decide +kernel
theorem dX8_wholeSet_13 : decode cX8_wholeSet 13 = .ok (.aload_n 0, 1) := by decide +kernel
theorem dX8_wholeSet_14 : decode cX8_wholeSet 14 = .ok (.getfield 31, 3) := by decide +kernel
theorem dX8_wholeSet_17 : decode cX8_wholeSet 17 = .ok (.iload_n 2, 1) := by decide +kernel
theorem dX8_wholeSet_18 : decode cX8_wholeSet 18 = .ok (.baload, 1) := by decide +kernel
theorem dX8_wholeSet_19 : decode cX8_wholeSet 19 = .ok (.ifCond .eq 9, 3) := by decide +kernel
theorem dX8_wholeSet_22 : decode cX8_wholeSet 22 = .ok (.iconst 1, 1) := by decide +kernel
theorem dX8_wholeSet_23 : decode cX8_wholeSet 23 = .ok (.iload_n 2, 1) := by decide +kernel
theorem dX8_wholeSet_24 : decode cX8_wholeSet 24 = .ok (.ishl, 1) := by decide +kernel
theorem dX8_wholeSet_25 : decode cX8_wholeSet 25 = .ok (.goto 4, 3) := by decide +kernel
theorem dX8_wholeSet_28 : decode cX8_wholeSet 28 = .ok (.iconst 0, 1) := by decide +kernel
theorem dX8_wholeSet_29 : decode cX8_wholeSet 29 = .ok (.ior, 1) := by decide +kernel
theorem dX8_wholeSet_30 : decode cX8_wholeSet 30 = .ok (.istore_n 1, 1) := by decide +kernel
theorem dX8_wholeSet_31 : decode cX8_wholeSet 31 = .ok (.iinc 2 1, 3) := by decide +kernel
theorem dX8_wholeSet_34 : decode cX8_wholeSet 34 = .ok (.goto (-30), 3) := by decide +kernel
theorem dX8_wholeSet_37 : decode cX8_wholeSet 37 = .ok (.iload_n 1, 1) := by decide +kernel
theorem dX8_wholeSet_38 : decode cX8_wholeSet 38 = .ok (.ireturn, 1) := by decide +kernel
theorem dX8_solves_0 : decode cX8_solves 0 = .ok (.lconst 0, 1) := by decide +kernel
theorem dX8_solves_1 : decode cX8_solves 1 = .ok (.lstore_n 3, 1) := by decide +kernel
theorem dX8_solves_2 : decode cX8_solves 2 = .ok (.lconst 0, 1) := by decide +kernel
theorem dX8_solves_3 : decode cX8_solves 3 = .ok (.lstore 5, 2) := by decide +kernel
theorem dX8_solves_5 : decode cX8_solves 5 = .ok (.lconst 0, 1) := by decide +kernel
theorem dX8_solves_6 : decode cX8_solves 6 = .ok (.lstore 7, 2) := by decide +kernel
theorem dX8_solves_8 : decode cX8_solves 8 = .ok (.lconst 0, 1) := by decide +kernel
theorem dX8_solves_9 : decode cX8_solves 9 = .ok (.lstore 9, 2) := by decide +kernel
theorem dX8_solves_11 : decode cX8_solves 11 = .ok (.lconst 0, 1) := by decide +kernel
theorem dX8_solves_12 : decode cX8_solves 12 = .ok (.lstore 11, 2) := by decide +kernel
theorem dX8_solves_14 : decode cX8_solves 14 = .ok (.lconst 0, 1) := by decide +kernel
theorem dX8_solves_15 : decode cX8_solves 15 = .ok (.lstore 13, 2) := by decide +kernel
theorem dX8_solves_17 : decode cX8_solves 17 = .ok (.iconst 0, 1) := by decide +kernel
theorem dX8_solves_18 : decode cX8_solves 18 = .ok (.istore 15, 2) := by decide +kernel
theorem dX8_solves_20 : decode cX8_solves 20 = .ok (.iload 15, 2) := by decide +kernel
theorem dX8_solves_22 : decode cX8_solves 22 = .ok (.aload_n 0, 1) := by decide +kernel
theorem dX8_solves_23 : decode cX8_solves 23 = .ok (.getfield 75, 3) := by decide +kernel
theorem dX8_solves_26 : decode cX8_solves 26 = .ok (.if_icmp .ge 141, 3) := by decide +kernel
theorem dX8_solves_29 : decode cX8_solves 29 = .ok (.iload_n 1, 1) := by decide +kernel
theorem dX8_solves_30 : decode cX8_solves 30 = .ok (.iload 15, 2) := by decide +kernel
theorem dX8_solves_32 : decode cX8_solves 32 = .ok (.ishr, 1) := by decide +kernel
theorem dX8_solves_33 : decode cX8_solves 33 = .ok (.iconst 1, 1) := by decide +kernel
theorem dX8_solves_34 : decode cX8_solves 34 = .ok (.iand, 1) := by decide +kernel
theorem dX8_solves_35 : decode cX8_solves 35 = .ok (.iconst 1, 1) := by decide +kernel
theorem dX8_solves_36 : decode cX8_solves 36 = .ok (.if_icmp .ne 125, 3) := by decide +kernel
theorem dX8_solves_39 : decode cX8_solves 39 = .ok (.aload_n 0, 1) := by decide +kernel
theorem dX8_solves_40 : decode cX8_solves 40 = .ok (.getfield 28, 3) := by decide +kernel
theorem dX8_solves_43 : decode cX8_solves 43 = .ok (.iload 15, 2) := by decide +kernel
theorem dX8_solves_45 : decode cX8_solves 45 = .ok (.iaload, 1) := by decide +kernel
theorem dX8_solves_46 : decode cX8_solves 46 = .ok (.i2l, 1) := by decide +kernel
theorem dX8_solves_47 : decode cX8_solves 47 = .ok (.lstore 16, 2) := by decide +kernel
theorem dX8_solves_49 : decode cX8_solves 49 = .ok (.lload_n 3, 1) := by decide +kernel
theorem dX8_solves_50 : decode cX8_solves 50 = .ok (.lload 16, 2) := by decide +kernel
theorem dX8_solves_52 : decode cX8_solves 52 = .ok (.ladd, 1) := by decide +kernel
theorem dX8_solves_53 : decode cX8_solves 53 = .ok (.lstore_n 3, 1) := by decide +kernel
theorem dX8_solves_54 : decode cX8_solves 54 = .ok (.lload 5, 2) := by decide +kernel
theorem dX8_solves_56 : decode cX8_solves 56 = .ok (.lload 16, 2) := by decide +kernel
theorem dX8_solves_58 : decode cX8_solves 58 = .ok (.aload_n 0, 1) := by decide +kernel
theorem dX8_solves_59 : decode cX8_solves 59 = .ok (.getfield 19, 3) := by decide +kernel
theorem dX8_solves_62 : decode cX8_solves 62 = .ok (.iload 15, 2) := by decide +kernel
theorem dX8_solves_64 : decode cX8_solves 64 = .ok (.iaload, 1) := by decide +kernel
theorem dX8_solves_65 : decode cX8_solves 65 = .ok (.i2l, 1) := by decide +kernel
theorem dX8_solves_66 : decode cX8_solves 66 = .ok (.lmul, 1) := by decide +kernel
theorem dX8_solves_67 : decode cX8_solves 67 = .ok (.ladd, 1) := by decide +kernel
theorem dX8_solves_68 : decode cX8_solves 68 = .ok (.lstore 5, 2) := by decide +kernel
theorem dX8_solves_70 : decode cX8_solves 70 = .ok (.lload 7, 2) := by decide +kernel
theorem dX8_solves_72 : decode cX8_solves 72 = .ok (.lload 16, 2) := by decide +kernel
theorem dX8_solves_74 : decode cX8_solves 74 = .ok (.aload_n 0, 1) := by decide +kernel
theorem dX8_solves_75 : decode cX8_solves 75 = .ok (.getfield 22, 3) := by decide +kernel
theorem dX8_solves_78 : decode cX8_solves 78 = .ok (.iload 15, 2) := by decide +kernel
theorem dX8_solves_80 : decode cX8_solves 80 = .ok (.iaload, 1) := by decide +kernel
theorem dX8_solves_81 : decode cX8_solves 81 = .ok (.i2l, 1) := by decide +kernel
theorem dX8_solves_82 : decode cX8_solves 82 = .ok (.lmul, 1) := by decide +kernel
theorem dX8_solves_83 : decode cX8_solves 83 = .ok (.ladd, 1) := by decide +kernel
theorem dX8_solves_84 : decode cX8_solves 84 = .ok (.lstore 7, 2) := by decide +kernel
theorem dX8_solves_86 : decode cX8_solves 86 = .ok (.lload 9, 2) := by decide +kernel
theorem dX8_solves_88 : decode cX8_solves 88 = .ok (.lload 16, 2) := by decide +kernel
theorem dX8_solves_90 : decode cX8_solves 90 = .ok (.aload_n 0, 1) := by decide +kernel
theorem dX8_solves_91 : decode cX8_solves 91 = .ok (.getfield 19, 3) := by decide +kernel
theorem dX8_solves_94 : decode cX8_solves 94 = .ok (.iload 15, 2) := by decide +kernel
theorem dX8_solves_96 : decode cX8_solves 96 = .ok (.iaload, 1) := by decide +kernel
theorem dX8_solves_97 : decode cX8_solves 97 = .ok (.i2l, 1) := by decide +kernel
theorem dX8_solves_98 : decode cX8_solves 98 = .ok (.lmul, 1) := by decide +kernel
theorem dX8_solves_99 : decode cX8_solves 99 = .ok (.aload_n 0, 1) := by decide +kernel
theorem dX8_solves_100 : decode cX8_solves 100 = .ok (.getfield 19, 3) := by decide +kernel
theorem dX8_solves_103 : decode cX8_solves 103 = .ok (.iload 15, 2) := by decide +kernel
theorem dX8_solves_105 : decode cX8_solves 105 = .ok (.iaload, 1) := by decide +kernel
theorem dX8_solves_106 : decode cX8_solves 106 = .ok (.i2l, 1) := by decide +kernel
theorem dX8_solves_107 : decode cX8_solves 107 = .ok (.lmul, 1) := by decide +kernel
theorem dX8_solves_108 : decode cX8_solves 108 = .ok (.ladd, 1) := by decide +kernel
theorem dX8_solves_109 : decode cX8_solves 109 = .ok (.lstore 9, 2) := by decide +kernel
theorem dX8_solves_111 : decode cX8_solves 111 = .ok (.lload 11, 2) := by decide +kernel
theorem dX8_solves_113 : decode cX8_solves 113 = .ok (.lload 16, 2) := by decide +kernel
theorem dX8_solves_115 : decode cX8_solves 115 = .ok (.aload_n 0, 1) := by decide +kernel
theorem dX8_solves_116 : decode cX8_solves 116 = .ok (.getfield 19, 3) := by decide +kernel
theorem dX8_solves_119 : decode cX8_solves 119 = .ok (.iload 15, 2) := by decide +kernel
theorem dX8_solves_121 : decode cX8_solves 121 = .ok (.iaload, 1) := by decide +kernel
theorem dX8_solves_122 : decode cX8_solves 122 = .ok (.i2l, 1) := by decide +kernel
theorem dX8_solves_123 : decode cX8_solves 123 = .ok (.lmul, 1) := by decide +kernel
theorem dX8_solves_124 : decode cX8_solves 124 = .ok (.aload_n 0, 1) := by decide +kernel
theorem dX8_solves_125 : decode cX8_solves 125 = .ok (.getfield 22, 3) := by decide +kernel
theorem dX8_solves_128 : decode cX8_solves 128 = .ok (.iload 15, 2) := by decide +kernel
theorem dX8_solves_130 : decode cX8_solves 130 = .ok (.iaload, 1) := by decide +kernel
theorem dX8_solves_131 : decode cX8_solves 131 = .ok (.i2l, 1) := by decide +kernel
theorem dX8_solves_132 : decode cX8_solves 132 = .ok (.lmul, 1) := by decide +kernel
theorem dX8_solves_133 : decode cX8_solves 133 = .ok (.ladd, 1) := by decide +kernel
theorem dX8_solves_134 : decode cX8_solves 134 = .ok (.lstore 11, 2) := by decide +kernel
theorem dX8_solves_136 : decode cX8_solves 136 = .ok (.lload 13, 2) := by decide +kernel
theorem dX8_solves_138 : decode cX8_solves 138 = .ok (.lload 16, 2) := by decide +kernel
theorem dX8_solves_140 : decode cX8_solves 140 = .ok (.aload_n 0, 1) := by decide +kernel
theorem dX8_solves_141 : decode cX8_solves 141 = .ok (.getfield 22, 3) := by decide +kernel
theorem dX8_solves_144 : decode cX8_solves 144 = .ok (.iload 15, 2) := by decide +kernel
theorem dX8_solves_146 : decode cX8_solves 146 = .ok (.iaload, 1) := by decide +kernel
theorem dX8_solves_147 : decode cX8_solves 147 = .ok (.i2l, 1) := by decide +kernel
theorem dX8_solves_148 : decode cX8_solves 148 = .ok (.lmul, 1) := by decide +kernel
theorem dX8_solves_149 : decode cX8_solves 149 = .ok (.aload_n 0, 1) := by decide +kernel
theorem dX8_solves_150 : decode cX8_solves 150 = .ok (.getfield 22, 3) := by decide +kernel
theorem dX8_solves_153 : decode cX8_solves 153 = .ok (.iload 15, 2) := by decide +kernel
theorem dX8_solves_155 : decode cX8_solves 155 = .ok (.iaload, 1) := by decide +kernel
theorem dX8_solves_156 : decode cX8_solves 156 = .ok (.i2l, 1) := by decide +kernel
theorem dX8_solves_157 : decode cX8_solves 157 = .ok (.lmul, 1) := by decide +kernel
theorem dX8_solves_158 : decode cX8_solves 158 = .ok (.ladd, 1) := by decide +kernel
theorem dX8_solves_159 : decode cX8_solves 159 = .ok (.lstore 13, 2) := by decide +kernel
theorem dX8_solves_161 : decode cX8_solves 161 = .ok (.iinc 15 1, 3) := by decide +kernel
theorem dX8_solves_164 : decode cX8_solves 164 = .ok (.goto (-144), 3) := by decide +kernel
theorem dX8_solves_167 : decode cX8_solves 167 = .ok (.aload_n 0, 1) := by decide +kernel
theorem dX8_solves_168 : decode cX8_solves 168 = .ok (.lload_n 3, 1) := by decide +kernel
theorem dX8_solves_169 : decode cX8_solves 169 = .ok (.lload 9, 2) := by decide +kernel
theorem dX8_solves_171 : decode cX8_solves 171 = .ok (.lload 13, 2) := by decide +kernel
theorem dX8_solves_173 : decode cX8_solves 173 = .ok (.lmul, 1) := by decide +kernel
theorem dX8_solves_174 : decode cX8_solves 174 = .ok (.lload 11, 2) := by decide +kernel
theorem dX8_solves_176 : decode cX8_solves 176 = .ok (.lload 11, 2) := by decide +kernel
theorem dX8_solves_178 : decode cX8_solves 178 = .ok (.lmul, 1) := by decide +kernel
theorem dX8_solves_179 : decode cX8_solves 179 = .ok (.lsub, 1) := by decide +kernel
theorem dX8_solves_180 : decode cX8_solves 180 = .ok (.lmul, 1) := by decide +kernel
theorem dX8_solves_181 : decode cX8_solves 181 = .ok (.lload 5, 2) := by decide +kernel
theorem dX8_solves_183 : decode cX8_solves 183 = .ok (.lload 5, 2) := by decide +kernel
theorem dX8_solves_185 : decode cX8_solves 185 = .ok (.lload 13, 2) := by decide +kernel
theorem dX8_solves_187 : decode cX8_solves 187 = .ok (.lmul, 1) := by decide +kernel
theorem dX8_solves_188 : decode cX8_solves 188 = .ok (.lload 11, 2) := by decide +kernel
theorem dX8_solves_190 : decode cX8_solves 190 = .ok (.lload 7, 2) := by decide +kernel
theorem dX8_solves_192 : decode cX8_solves 192 = .ok (.lmul, 1) := by decide +kernel
theorem dX8_solves_193 : decode cX8_solves 193 = .ok (.lsub, 1) := by decide +kernel
theorem dX8_solves_194 : decode cX8_solves 194 = .ok (.lmul, 1) := by decide +kernel
theorem dX8_solves_195 : decode cX8_solves 195 = .ok (.lsub, 1) := by decide +kernel
theorem dX8_solves_196 : decode cX8_solves 196 = .ok (.lload 7, 2) := by decide +kernel
theorem dX8_solves_198 : decode cX8_solves 198 = .ok (.lload 5, 2) := by decide +kernel
theorem dX8_solves_200 : decode cX8_solves 200 = .ok (.lload 11, 2) := by decide +kernel
theorem dX8_solves_202 : decode cX8_solves 202 = .ok (.lmul, 1) := by decide +kernel
theorem dX8_solves_203 : decode cX8_solves 203 = .ok (.lload 9, 2) := by decide +kernel
theorem dX8_solves_205 : decode cX8_solves 205 = .ok (.lload 7, 2) := by decide +kernel
theorem dX8_solves_207 : decode cX8_solves 207 = .ok (.lmul, 1) := by decide +kernel
theorem dX8_solves_208 : decode cX8_solves 208 = .ok (.lsub, 1) := by decide +kernel
theorem dX8_solves_209 : decode cX8_solves 209 = .ok (.lmul, 1) := by decide +kernel
theorem dX8_solves_210 : decode cX8_solves 210 = .ok (.ladd, 1) := by decide +kernel
theorem dX8_solves_211 : decode cX8_solves 211 = .ok (.putfield 98, 3) := by decide +kernel
theorem dX8_solves_214 : decode cX8_solves 214 = .ok (.aload_n 0, 1) := by decide +kernel
theorem dX8_solves_215 : decode cX8_solves 215 = .ok (.getfield 98, 3) := by decide +kernel
theorem dX8_solves_218 : decode cX8_solves 218 = .ok (.lconst 0, 1) := by decide +kernel
theorem dX8_solves_219 : decode cX8_solves 219 = .ok (.lcmp, 1) := by decide +kernel
theorem dX8_solves_220 : decode cX8_solves 220 = .ok (.ifCond .ne 5, 3) := by decide +kernel
theorem dX8_solves_223 : decode cX8_solves 223 = .ok (.iconst 0, 1) := by decide +kernel
theorem dX8_solves_224 : decode cX8_solves 224 = .ok (.ireturn, 1) := by decide +kernel
theorem dX8_solves_225 : decode cX8_solves 225 = .ok (.lconst 0, 1) := by decide +kernel
theorem dX8_solves_226 : decode cX8_solves 226 = .ok (.lstore 15, 2) := by decide +kernel
theorem dX8_solves_228 : decode cX8_solves 228 = .ok (.lconst 0, 1) := by decide +kernel
theorem dX8_solves_229 : decode cX8_solves 229 = .ok (.lstore 17, 2) := by decide +kernel
theorem dX8_solves_231 : decode cX8_solves 231 = .ok (.lconst 0, 1) := by decide +kernel
theorem dX8_solves_232 : decode cX8_solves 232 = .ok (.lstore 19, 2) := by decide +kernel
theorem dX8_solves_234 : decode cX8_solves 234 = .ok (.iconst 0, 1) := by decide +kernel
theorem dX8_solves_235 : decode cX8_solves 235 = .ok (.istore 21, 2) := by decide +kernel
theorem dX8_solves_237 : decode cX8_solves 237 = .ok (.iload 21, 2) := by decide +kernel
theorem dX8_solves_239 : decode cX8_solves 239 = .ok (.aload_n 0, 1) := by decide +kernel
theorem dX8_solves_240 : decode cX8_solves 240 = .ok (.getfield 35, 3) := by decide +kernel
theorem dX8_solves_243 : decode cX8_solves 243 = .ok (.iload_n 2, 1) := by decide +kernel
theorem dX8_solves_244 : decode cX8_solves 244 = .ok (.iaload, 1) := by decide +kernel
theorem dX8_solves_245 : decode cX8_solves 245 = .ok (.if_icmp .ge 73, 3) := by decide +kernel
theorem dX8_solves_248 : decode cX8_solves 248 = .ok (.aload_n 0, 1) := by decide +kernel
theorem dX8_solves_249 : decode cX8_solves 249 = .ok (.getfield 38, 3) := by decide +kernel
theorem dX8_solves_252 : decode cX8_solves 252 = .ok (.bipush 6, 2) := by decide +kernel
theorem dX8_solves_254 : decode cX8_solves 254 = .ok (.iload_n 2, 1) := by decide +kernel
theorem dX8_solves_255 : decode cX8_solves 255 = .ok (.imul, 1) := by decide +kernel
theorem dX8_solves_256 : decode cX8_solves 256 = .ok (.iload 21, 2) := by decide +kernel
theorem dX8_solves_258 : decode cX8_solves 258 = .ok (.iadd, 1) := by decide +kernel
theorem dX8_solves_259 : decode cX8_solves 259 = .ok (.iaload, 1) := by decide +kernel
theorem dX8_solves_260 : decode cX8_solves 260 = .ok (.i2l, 1) := by decide +kernel
theorem dX8_solves_261 : decode cX8_solves 261 = .ok (.lstore 22, 2) := by decide +kernel
theorem dX8_solves_263 : decode cX8_solves 263 = .ok (.lload 15, 2) := by decide +kernel
theorem dX8_solves_265 : decode cX8_solves 265 = .ok (.lload 22, 2) := by decide +kernel
theorem dX8_solves_267 : decode cX8_solves 267 = .ok (.ladd, 1) := by decide +kernel
theorem dX8_solves_268 : decode cX8_solves 268 = .ok (.lstore 15, 2) := by decide +kernel
theorem dX8_solves_270 : decode cX8_solves 270 = .ok (.lload 17, 2) := by decide +kernel
theorem dX8_solves_272 : decode cX8_solves 272 = .ok (.lload 22, 2) := by decide +kernel
theorem dX8_solves_274 : decode cX8_solves 274 = .ok (.aload_n 0, 1) := by decide +kernel
theorem dX8_solves_275 : decode cX8_solves 275 = .ok (.getfield 41, 3) := by decide +kernel
theorem dX8_solves_278 : decode cX8_solves 278 = .ok (.bipush 6, 2) := by decide +kernel
theorem dX8_solves_280 : decode cX8_solves 280 = .ok (.iload_n 2, 1) := by decide +kernel
theorem dX8_solves_281 : decode cX8_solves 281 = .ok (.imul, 1) := by decide +kernel
theorem dX8_solves_282 : decode cX8_solves 282 = .ok (.iload 21, 2) := by decide +kernel
theorem dX8_solves_284 : decode cX8_solves 284 = .ok (.iadd, 1) := by decide +kernel
theorem dX8_solves_285 : decode cX8_solves 285 = .ok (.iaload, 1) := by decide +kernel
theorem dX8_solves_286 : decode cX8_solves 286 = .ok (.i2l, 1) := by decide +kernel
theorem dX8_solves_287 : decode cX8_solves 287 = .ok (.lmul, 1) := by decide +kernel
theorem dX8_solves_288 : decode cX8_solves 288 = .ok (.ladd, 1) := by decide +kernel
theorem dX8_solves_289 : decode cX8_solves 289 = .ok (.lstore 17, 2) := by decide +kernel
theorem dX8_solves_291 : decode cX8_solves 291 = .ok (.lload 19, 2) := by decide +kernel
theorem dX8_solves_293 : decode cX8_solves 293 = .ok (.lload 22, 2) := by decide +kernel
theorem dX8_solves_295 : decode cX8_solves 295 = .ok (.aload_n 0, 1) := by decide +kernel
theorem dX8_solves_296 : decode cX8_solves 296 = .ok (.getfield 44, 3) := by decide +kernel
theorem dX8_solves_299 : decode cX8_solves 299 = .ok (.bipush 6, 2) := by decide +kernel
theorem dX8_solves_301 : decode cX8_solves 301 = .ok (.iload_n 2, 1) := by decide +kernel
theorem dX8_solves_302 : decode cX8_solves 302 = .ok (.imul, 1) := by decide +kernel
theorem dX8_solves_303 : decode cX8_solves 303 = .ok (.iload 21, 2) := by decide +kernel
theorem dX8_solves_305 : decode cX8_solves 305 = .ok (.iadd, 1) := by decide +kernel
theorem dX8_solves_306 : decode cX8_solves 306 = .ok (.iaload, 1) := by decide +kernel
theorem dX8_solves_307 : decode cX8_solves 307 = .ok (.i2l, 1) := by decide +kernel
theorem dX8_solves_308 : decode cX8_solves 308 = .ok (.lmul, 1) := by decide +kernel
theorem dX8_solves_309 : decode cX8_solves 309 = .ok (.ladd, 1) := by decide +kernel
theorem dX8_solves_310 : decode cX8_solves 310 = .ok (.lstore 19, 2) := by decide +kernel
theorem dX8_solves_312 : decode cX8_solves 312 = .ok (.iinc 21 1, 3) := by decide +kernel
theorem dX8_solves_315 : decode cX8_solves 315 = .ok (.goto (-78), 3) := by decide +kernel
theorem dX8_solves_318 : decode cX8_solves 318 = .ok (.aload_n 0, 1) := by decide +kernel
theorem dX8_solves_319 : decode cX8_solves 319 = .ok (.lload 15, 2) := by decide +kernel
theorem dX8_solves_321 : decode cX8_solves 321 = .ok (.lload 9, 2) := by decide +kernel
theorem dX8_solves_323 : decode cX8_solves 323 = .ok (.lload 13, 2) := by decide +kernel
theorem dX8_solves_325 : decode cX8_solves 325 = .ok (.lmul, 1) := by decide +kernel
theorem dX8_solves_326 : decode cX8_solves 326 = .ok (.lload 11, 2) := by decide +kernel
theorem dX8_solves_328 : decode cX8_solves 328 = .ok (.lload 11, 2) := by decide +kernel
theorem dX8_solves_330 : decode cX8_solves 330 = .ok (.lmul, 1) := by decide +kernel
theorem dX8_solves_331 : decode cX8_solves 331 = .ok (.lsub, 1) := by decide +kernel
theorem dX8_solves_332 : decode cX8_solves 332 = .ok (.lmul, 1) := by decide +kernel
theorem dX8_solves_333 : decode cX8_solves 333 = .ok (.lload 5, 2) := by decide +kernel
theorem dX8_solves_335 : decode cX8_solves 335 = .ok (.lload 17, 2) := by decide +kernel
theorem dX8_solves_337 : decode cX8_solves 337 = .ok (.lload 13, 2) := by decide +kernel
theorem dX8_solves_339 : decode cX8_solves 339 = .ok (.lmul, 1) := by decide +kernel
theorem dX8_solves_340 : decode cX8_solves 340 = .ok (.lload 11, 2) := by decide +kernel
theorem dX8_solves_342 : decode cX8_solves 342 = .ok (.lload 19, 2) := by decide +kernel
theorem dX8_solves_344 : decode cX8_solves 344 = .ok (.lmul, 1) := by decide +kernel
theorem dX8_solves_345 : decode cX8_solves 345 = .ok (.lsub, 1) := by decide +kernel
theorem dX8_solves_346 : decode cX8_solves 346 = .ok (.lmul, 1) := by decide +kernel
theorem dX8_solves_347 : decode cX8_solves 347 = .ok (.lsub, 1) := by decide +kernel
theorem dX8_solves_348 : decode cX8_solves 348 = .ok (.lload 7, 2) := by decide +kernel
theorem dX8_solves_350 : decode cX8_solves 350 = .ok (.lload 17, 2) := by decide +kernel
theorem dX8_solves_352 : decode cX8_solves 352 = .ok (.lload 11, 2) := by decide +kernel
theorem dX8_solves_354 : decode cX8_solves 354 = .ok (.lmul, 1) := by decide +kernel
theorem dX8_solves_355 : decode cX8_solves 355 = .ok (.lload 9, 2) := by decide +kernel
theorem dX8_solves_357 : decode cX8_solves 357 = .ok (.lload 19, 2) := by decide +kernel
theorem dX8_solves_359 : decode cX8_solves 359 = .ok (.lmul, 1) := by decide +kernel
theorem dX8_solves_360 : decode cX8_solves 360 = .ok (.lsub, 1) := by decide +kernel
theorem dX8_solves_361 : decode cX8_solves 361 = .ok (.lmul, 1) := by decide +kernel
theorem dX8_solves_362 : decode cX8_solves 362 = .ok (.ladd, 1) := by decide +kernel
theorem dX8_solves_363 : decode cX8_solves 363 = .ok (.putfield 102, 3) := by decide +kernel
theorem dX8_solves_366 : decode cX8_solves 366 = .ok (.aload_n 0, 1) := by decide +kernel
theorem dX8_solves_367 : decode cX8_solves 367 = .ok (.lload_n 3, 1) := by decide +kernel
theorem dX8_solves_368 : decode cX8_solves 368 = .ok (.lload 17, 2) := by decide +kernel
theorem dX8_solves_370 : decode cX8_solves 370 = .ok (.lload 13, 2) := by decide +kernel
theorem dX8_solves_372 : decode cX8_solves 372 = .ok (.lmul, 1) := by decide +kernel
theorem dX8_solves_373 : decode cX8_solves 373 = .ok (.lload 11, 2) := by decide +kernel
theorem dX8_solves_375 : decode cX8_solves 375 = .ok (.lload 19, 2) := by decide +kernel
theorem dX8_solves_377 : decode cX8_solves 377 = .ok (.lmul, 1) := by decide +kernel
theorem dX8_solves_378 : decode cX8_solves 378 = .ok (.lsub, 1) := by decide +kernel
theorem dX8_solves_379 : decode cX8_solves 379 = .ok (.lmul, 1) := by decide +kernel
theorem dX8_solves_380 : decode cX8_solves 380 = .ok (.lload 15, 2) := by decide +kernel
theorem dX8_solves_382 : decode cX8_solves 382 = .ok (.lload 5, 2) := by decide +kernel
theorem dX8_solves_384 : decode cX8_solves 384 = .ok (.lload 13, 2) := by decide +kernel
theorem dX8_solves_386 : decode cX8_solves 386 = .ok (.lmul, 1) := by decide +kernel
theorem dX8_solves_387 : decode cX8_solves 387 = .ok (.lload 11, 2) := by decide +kernel
theorem dX8_solves_389 : decode cX8_solves 389 = .ok (.lload 7, 2) := by decide +kernel
theorem dX8_solves_391 : decode cX8_solves 391 = .ok (.lmul, 1) := by decide +kernel
theorem dX8_solves_392 : decode cX8_solves 392 = .ok (.lsub, 1) := by decide +kernel
theorem dX8_solves_393 : decode cX8_solves 393 = .ok (.lmul, 1) := by decide +kernel
theorem dX8_solves_394 : decode cX8_solves 394 = .ok (.lsub, 1) := by decide +kernel
theorem dX8_solves_395 : decode cX8_solves 395 = .ok (.lload 7, 2) := by decide +kernel
theorem dX8_solves_397 : decode cX8_solves 397 = .ok (.lload 5, 2) := by decide +kernel
theorem dX8_solves_399 : decode cX8_solves 399 = .ok (.lload 19, 2) := by decide +kernel
theorem dX8_solves_401 : decode cX8_solves 401 = .ok (.lmul, 1) := by decide +kernel
theorem dX8_solves_402 : decode cX8_solves 402 = .ok (.lload 17, 2) := by decide +kernel
theorem dX8_solves_404 : decode cX8_solves 404 = .ok (.lload 7, 2) := by decide +kernel
theorem dX8_solves_406 : decode cX8_solves 406 = .ok (.lmul, 1) := by decide +kernel
theorem dX8_solves_407 : decode cX8_solves 407 = .ok (.lsub, 1) := by decide +kernel
theorem dX8_solves_408 : decode cX8_solves 408 = .ok (.lmul, 1) := by decide +kernel
theorem dX8_solves_409 : decode cX8_solves 409 = .ok (.ladd, 1) := by decide +kernel
theorem dX8_solves_410 : decode cX8_solves 410 = .ok (.putfield 105, 3) := by decide +kernel
theorem dX8_solves_413 : decode cX8_solves 413 = .ok (.aload_n 0, 1) := by decide +kernel
theorem dX8_solves_414 : decode cX8_solves 414 = .ok (.lload_n 3, 1) := by decide +kernel
theorem dX8_solves_415 : decode cX8_solves 415 = .ok (.lload 9, 2) := by decide +kernel
theorem dX8_solves_417 : decode cX8_solves 417 = .ok (.lload 19, 2) := by decide +kernel
theorem dX8_solves_419 : decode cX8_solves 419 = .ok (.lmul, 1) := by decide +kernel
theorem dX8_solves_420 : decode cX8_solves 420 = .ok (.lload 17, 2) := by decide +kernel
theorem dX8_solves_422 : decode cX8_solves 422 = .ok (.lload 11, 2) := by decide +kernel
theorem dX8_solves_424 : decode cX8_solves 424 = .ok (.lmul, 1) := by decide +kernel
theorem dX8_solves_425 : decode cX8_solves 425 = .ok (.lsub, 1) := by decide +kernel
theorem dX8_solves_426 : decode cX8_solves 426 = .ok (.lmul, 1) := by decide +kernel
theorem dX8_solves_427 : decode cX8_solves 427 = .ok (.lload 5, 2) := by decide +kernel
theorem dX8_solves_429 : decode cX8_solves 429 = .ok (.lload 5, 2) := by decide +kernel
theorem dX8_solves_431 : decode cX8_solves 431 = .ok (.lload 19, 2) := by decide +kernel
theorem dX8_solves_433 : decode cX8_solves 433 = .ok (.lmul, 1) := by decide +kernel
theorem dX8_solves_434 : decode cX8_solves 434 = .ok (.lload 17, 2) := by decide +kernel
theorem dX8_solves_436 : decode cX8_solves 436 = .ok (.lload 7, 2) := by decide +kernel
theorem dX8_solves_438 : decode cX8_solves 438 = .ok (.lmul, 1) := by decide +kernel
theorem dX8_solves_439 : decode cX8_solves 439 = .ok (.lsub, 1) := by decide +kernel
theorem dX8_solves_440 : decode cX8_solves 440 = .ok (.lmul, 1) := by decide +kernel
theorem dX8_solves_441 : decode cX8_solves 441 = .ok (.lsub, 1) := by decide +kernel
theorem dX8_solves_442 : decode cX8_solves 442 = .ok (.lload 15, 2) := by decide +kernel
theorem dX8_solves_444 : decode cX8_solves 444 = .ok (.lload 5, 2) := by decide +kernel
theorem dX8_solves_446 : decode cX8_solves 446 = .ok (.lload 11, 2) := by decide +kernel
theorem dX8_solves_448 : decode cX8_solves 448 = .ok (.lmul, 1) := by decide +kernel
theorem dX8_solves_449 : decode cX8_solves 449 = .ok (.lload 9, 2) := by decide +kernel
theorem dX8_solves_451 : decode cX8_solves 451 = .ok (.lload 7, 2) := by decide +kernel
theorem dX8_solves_453 : decode cX8_solves 453 = .ok (.lmul, 1) := by decide +kernel
theorem dX8_solves_454 : decode cX8_solves 454 = .ok (.lsub, 1) := by decide +kernel
theorem dX8_solves_455 : decode cX8_solves 455 = .ok (.lmul, 1) := by decide +kernel
theorem dX8_solves_456 : decode cX8_solves 456 = .ok (.ladd, 1) := by decide +kernel
theorem dX8_solves_457 : decode cX8_solves 457 = .ok (.putfield 108, 3) := by decide +kernel
theorem dX8_solves_460 : decode cX8_solves 460 = .ok (.iconst 1, 1) := by decide +kernel
theorem dX8_solves_461 : decode cX8_solves 461 = .ok (.ireturn, 1) := by decide +kernel
theorem dX8_shareOf_0 : decode cX8_shareOf 0 = .ok (.aload_n 0, 1) := by decide +kernel
theorem dX8_shareOf_1 : decode cX8_shareOf 1 = .ok (.getfield 28, 3) := by decide +kernel
theorem dX8_shareOf_4 : decode cX8_shareOf 4 = .ok (.iload_n 1, 1) := by decide +kernel
theorem dX8_shareOf_5 : decode cX8_shareOf 5 = .ok (.iaload, 1) := by decide +kernel
theorem dX8_shareOf_6 : decode cX8_shareOf 6 = .ok (.i2l, 1) := by decide +kernel
theorem dX8_shareOf_7 : decode cX8_shareOf 7 = .ok (.aload_n 0, 1) := by decide +kernel
theorem dX8_shareOf_8 : decode cX8_shareOf 8 = .ok (.getfield 102, 3) := by decide +kernel
theorem dX8_shareOf_11 : decode cX8_shareOf 11 = .ok (.aload_n 0, 1) := by decide +kernel
theorem dX8_shareOf_12 : decode cX8_shareOf 12 = .ok (.getfield 105, 3) := by decide +kernel
theorem dX8_shareOf_15 : decode cX8_shareOf 15 = .ok (.aload_n 0, 1) := by decide +kernel
theorem dX8_shareOf_16 : decode cX8_shareOf 16 = .ok (.getfield 19, 3) := by decide +kernel
theorem dX8_shareOf_19 : decode cX8_shareOf 19 = .ok (.iload_n 1, 1) := by decide +kernel
theorem dX8_shareOf_20 : decode cX8_shareOf 20 = .ok (.iaload, 1) := by decide +kernel
theorem dX8_shareOf_21 : decode cX8_shareOf 21 = .ok (.i2l, 1) := by decide +kernel
theorem dX8_shareOf_22 : decode cX8_shareOf 22 = .ok (.lmul, 1) := by decide +kernel
theorem dX8_shareOf_23 : decode cX8_shareOf 23 = .ok (.ladd, 1) := by decide +kernel
theorem dX8_shareOf_24 : decode cX8_shareOf 24 = .ok (.aload_n 0, 1) := by decide +kernel
theorem dX8_shareOf_25 : decode cX8_shareOf 25 = .ok (.getfield 108, 3) := by decide +kernel
theorem dX8_shareOf_28 : decode cX8_shareOf 28 = .ok (.aload_n 0, 1) := by decide +kernel
theorem dX8_shareOf_29 : decode cX8_shareOf 29 = .ok (.getfield 22, 3) := by decide +kernel
theorem dX8_shareOf_32 : decode cX8_shareOf 32 = .ok (.iload_n 1, 1) := by decide +kernel
theorem dX8_shareOf_33 : decode cX8_shareOf 33 = .ok (.iaload, 1) := by decide +kernel
theorem dX8_shareOf_34 : decode cX8_shareOf 34 = .ok (.i2l, 1) := by decide +kernel
theorem dX8_shareOf_35 : decode cX8_shareOf 35 = .ok (.lmul, 1) := by decide +kernel
theorem dX8_shareOf_36 : decode cX8_shareOf 36 = .ok (.ladd, 1) := by decide +kernel
theorem dX8_shareOf_37 : decode cX8_shareOf 37 = .ok (.lmul, 1) := by decide +kernel
theorem dX8_shareOf_38 : decode cX8_shareOf 38 = .ok (.lreturn, 1) := by decide +kernel
theorem dX8_common_0 : decode cX8_common 0 = .ok (.lload_n 0, 1) := by decide +kernel
theorem dX8_common_1 : decode cX8_common 1 = .ok (.lconst 0, 1) := by decide +kernel
theorem dX8_common_2 : decode cX8_common 2 = .ok (.lcmp, 1) := by decide +kernel
theorem dX8_common_3 : decode cX8_common 3 = .ok (.ifCond .ge 8, 3) := by decide +kernel
theorem dX8_common_6 : decode cX8_common 6 = .ok (.lload_n 0, 1) := by decide +kernel
theorem dX8_common_7 : decode cX8_common 7 = .ok (.lneg, 1) := by decide +kernel
theorem dX8_common_8 : decode cX8_common 8 = .ok (.goto 4, 3) := by decide +kernel
theorem dX8_common_11 : decode cX8_common 11 = .ok (.lload_n 0, 1) := by decide +kernel
theorem dX8_common_12 : decode cX8_common 12 = .ok (.lstore 4, 2) := by decide +kernel
theorem dX8_common_14 : decode cX8_common 14 = .ok (.lload_n 2, 1) := by decide +kernel
theorem dX8_common_15 : decode cX8_common 15 = .ok (.lstore 6, 2) := by decide +kernel
theorem dX8_common_17 : decode cX8_common 17 = .ok (.lload 6, 2) := by decide +kernel
theorem dX8_common_19 : decode cX8_common 19 = .ok (.lconst 0, 1) := by decide +kernel
theorem dX8_common_20 : decode cX8_common 20 = .ok (.lcmp, 1) := by decide +kernel
theorem dX8_common_21 : decode cX8_common 21 = .ok (.ifCond .eq 21, 3) := by decide +kernel
theorem dX8_common_24 : decode cX8_common 24 = .ok (.lload 4, 2) := by decide +kernel
theorem dX8_common_26 : decode cX8_common 26 = .ok (.lload 6, 2) := by decide +kernel
theorem dX8_common_28 : decode cX8_common 28 = .ok (.lrem, 1) := by decide +kernel
theorem dX8_common_29 : decode cX8_common 29 = .ok (.lstore 8, 2) := by decide +kernel
theorem dX8_common_31 : decode cX8_common 31 = .ok (.lload 6, 2) := by decide +kernel
theorem dX8_common_33 : decode cX8_common 33 = .ok (.lstore 4, 2) := by decide +kernel
theorem dX8_common_35 : decode cX8_common 35 = .ok (.lload 8, 2) := by decide +kernel
theorem dX8_common_37 : decode cX8_common 37 = .ok (.lstore 6, 2) := by decide +kernel
theorem dX8_common_39 : decode cX8_common 39 = .ok (.goto (-22), 3) := by decide +kernel
theorem dX8_common_42 : decode cX8_common 42 = .ok (.lload 4, 2) := by decide +kernel
theorem dX8_common_44 : decode cX8_common 44 = .ok (.lreturn, 1) := by decide +kernel
theorem dX8_tell_0 : decode cX8_tell 0 = .ok (.lload_n 2, 1) := by decide +kernel
theorem dX8_tell_1 : decode cX8_tell 1 = .ok (.lload 4, 2) := by decide +kernel
theorem dX8_tell_3 : decode cX8_tell 3 = .ok (.invokestatic 111, 3) := by decide +kernel
theorem dX8_tell_6 : decode cX8_tell 6 = .ok (.lstore 6, 2) := by decide +kernel
theorem dX8_tell_8 : decode cX8_tell 8 = .ok (.aload_n 0, 1) := by decide +kernel
theorem dX8_tell_9 : decode cX8_tell 9 = .ok (.getfield 47, 3) := by decide +kernel
theorem dX8_tell_12 : decode cX8_tell 12 = .ok (.iload_n 1, 1) := by decide +kernel
theorem dX8_tell_13 : decode cX8_tell 13 = .ok (.lload_n 2, 1) := by decide +kernel
theorem dX8_tell_14 : decode cX8_tell 14 = .ok (.lload 6, 2) := by decide +kernel
theorem dX8_tell_16 : decode cX8_tell 16 = .ok (.ldiv, 1) := by decide +kernel
theorem dX8_tell_17 : decode cX8_tell 17 = .ok (.lastore, 1) := by decide +kernel
theorem dX8_tell_18 : decode cX8_tell 18 = .ok (.aload_n 0, 1) := by decide +kernel
theorem dX8_tell_19 : decode cX8_tell 19 = .ok (.getfield 51, 3) := by decide +kernel
theorem dX8_tell_22 : decode cX8_tell 22 = .ok (.iload_n 1, 1) := by decide +kernel
theorem dX8_tell_23 : decode cX8_tell 23 = .ok (.lload 4, 2) := by decide +kernel
theorem dX8_tell_25 : decode cX8_tell 25 = .ok (.lload 6, 2) := by decide +kernel
theorem dX8_tell_27 : decode cX8_tell 27 = .ok (.ldiv, 1) := by decide +kernel
theorem dX8_tell_28 : decode cX8_tell 28 = .ok (.lastore, 1) := by decide +kernel
theorem dX8_tell_29 : decode cX8_tell 29 = .ok (.return_, 1) := by decide +kernel
theorem dX8_shares_0 : decode cX8_shares 0 = .ok (.iload_n 1, 1) := by decide +kernel
theorem dX8_shares_1 : decode cX8_shares 1 = .ok (.invokestatic 95, 3) := by decide +kernel
theorem dX8_shares_4 : decode cX8_shares 4 = .ok (.ifCond .ne 5, 3) := by decide +kernel
theorem dX8_shares_7 : decode cX8_shares 7 = .ok (.iconst (-1), 1) := by decide +kernel
theorem dX8_shares_8 : decode cX8_shares 8 = .ok (.ireturn, 1) := by decide +kernel
theorem dX8_shares_9 : decode cX8_shares 9 = .ok (.aload_n 0, 1) := by decide +kernel
theorem dX8_shares_10 : decode cX8_shares 10 = .ok (.aload_n 0, 1) := by decide +kernel
theorem dX8_shares_11 : decode cX8_shares 11 = .ok (.invokevirtual 115, 3) := by decide +kernel
theorem dX8_shares_14 : decode cX8_shares 14 = .ok (.iload_n 1, 1) := by decide +kernel
theorem dX8_shares_15 : decode cX8_shares 15 = .ok (.invokevirtual 119, 3) := by decide +kernel
theorem dX8_shares_18 : decode cX8_shares 18 = .ok (.ifCond .ne 6, 3) := by decide +kernel
theorem dX8_shares_21 : decode cX8_shares 21 = .ok (.bipush (-2), 2) := by decide +kernel
theorem dX8_shares_23 : decode cX8_shares 23 = .ok (.ireturn, 1) := by decide +kernel
theorem dX8_shares_24 : decode cX8_shares 24 = .ok (.aload_n 0, 1) := by decide +kernel
theorem dX8_shares_25 : decode cX8_shares 25 = .ok (.iconst 0, 1) := by decide +kernel
theorem dX8_shares_26 : decode cX8_shares 26 = .ok (.aload_n 0, 1) := by decide +kernel
theorem dX8_shares_27 : decode cX8_shares 27 = .ok (.getfield 102, 3) := by decide +kernel
theorem dX8_shares_30 : decode cX8_shares 30 = .ok (.aload_n 0, 1) := by decide +kernel
theorem dX8_shares_31 : decode cX8_shares 31 = .ok (.getfield 98, 3) := by decide +kernel
theorem dX8_shares_34 : decode cX8_shares 34 = .ok (.invokevirtual 122, 3) := by decide +kernel
theorem dX8_shares_37 : decode cX8_shares 37 = .ok (.aload_n 0, 1) := by decide +kernel
theorem dX8_shares_38 : decode cX8_shares 38 = .ok (.iconst 1, 1) := by decide +kernel
theorem dX8_shares_39 : decode cX8_shares 39 = .ok (.aload_n 0, 1) := by decide +kernel
theorem dX8_shares_40 : decode cX8_shares 40 = .ok (.getfield 105, 3) := by decide +kernel
theorem dX8_shares_43 : decode cX8_shares 43 = .ok (.aload_n 0, 1) := by decide +kernel
theorem dX8_shares_44 : decode cX8_shares 44 = .ok (.getfield 98, 3) := by decide +kernel
theorem dX8_shares_47 : decode cX8_shares 47 = .ok (.invokevirtual 122, 3) := by decide +kernel
theorem dX8_shares_50 : decode cX8_shares 50 = .ok (.aload_n 0, 1) := by decide +kernel
theorem dX8_shares_51 : decode cX8_shares 51 = .ok (.iconst 2, 1) := by decide +kernel
theorem dX8_shares_52 : decode cX8_shares 52 = .ok (.aload_n 0, 1) := by decide +kernel
theorem dX8_shares_53 : decode cX8_shares 53 = .ok (.getfield 108, 3) := by decide +kernel
theorem dX8_shares_56 : decode cX8_shares 56 = .ok (.aload_n 0, 1) := by decide +kernel
theorem dX8_shares_57 : decode cX8_shares 57 = .ok (.getfield 98, 3) := by decide +kernel
theorem dX8_shares_60 : decode cX8_shares 60 = .ok (.invokevirtual 122, 3) := by decide +kernel
theorem dX8_shares_63 : decode cX8_shares 63 = .ok (.iconst 0, 1) := by decide +kernel
theorem dX8_shares_64 : decode cX8_shares 64 = .ok (.istore_n 2, 1) := by decide +kernel
theorem dX8_shares_65 : decode cX8_shares 65 = .ok (.iload_n 2, 1) := by decide +kernel
theorem dX8_shares_66 : decode cX8_shares 66 = .ok (.aload_n 0, 1) := by decide +kernel
theorem dX8_shares_67 : decode cX8_shares 67 = .ok (.getfield 75, 3) := by decide +kernel
theorem dX8_shares_70 : decode cX8_shares 70 = .ok (.if_icmp .ge 38, 3) := by decide +kernel
theorem dX8_shares_73 : decode cX8_shares 73 = .ok (.aload_n 0, 1) := by decide +kernel
theorem dX8_shares_74 : decode cX8_shares 74 = .ok (.iconst 3, 1) := by decide +kernel
theorem dX8_shares_75 : decode cX8_shares 75 = .ok (.iload_n 2, 1) := by decide +kernel
theorem dX8_shares_76 : decode cX8_shares 76 = .ok (.iadd, 1) := by decide +kernel
theorem dX8_shares_77 : decode cX8_shares 77 = .ok (.aload_n 0, 1) := by decide +kernel
theorem dX8_shares_78 : decode cX8_shares 78 = .ok (.getfield 31, 3) := by decide +kernel
theorem dX8_shares_81 : decode cX8_shares 81 = .ok (.iload_n 2, 1) := by decide +kernel
theorem dX8_shares_82 : decode cX8_shares 82 = .ok (.baload, 1) := by decide +kernel
theorem dX8_shares_83 : decode cX8_shares 83 = .ok (.ifCond .eq 11, 3) := by decide +kernel
theorem dX8_shares_86 : decode cX8_shares 86 = .ok (.aload_n 0, 1) := by decide +kernel
theorem dX8_shares_87 : decode cX8_shares 87 = .ok (.iload_n 2, 1) := by decide +kernel
theorem dX8_shares_88 : decode cX8_shares 88 = .ok (.invokevirtual 126, 3) := by decide +kernel
theorem dX8_shares_91 : decode cX8_shares 91 = .ok (.goto 4, 3) := by decide +kernel
theorem dX8_shares_94 : decode cX8_shares 94 = .ok (.lconst 0, 1) := by decide +kernel
theorem dX8_shares_95 : decode cX8_shares 95 = .ok (.aload_n 0, 1) := by decide +kernel
theorem dX8_shares_96 : decode cX8_shares 96 = .ok (.getfield 98, 3) := by decide +kernel
theorem dX8_shares_99 : decode cX8_shares 99 = .ok (.invokevirtual 122, 3) := by decide +kernel
theorem dX8_shares_102 : decode cX8_shares 102 = .ok (.iinc 2 1, 3) := by decide +kernel
theorem dX8_shares_105 : decode cX8_shares 105 = .ok (.goto (-40), 3) := by decide +kernel
theorem dX8_shares_108 : decode cX8_shares 108 = .ok (.aload_n 0, 1) := by decide +kernel
theorem dX8_shares_109 : decode cX8_shares 109 = .ok (.iconst 3, 1) := by decide +kernel
theorem dX8_shares_110 : decode cX8_shares 110 = .ok (.aload_n 0, 1) := by decide +kernel
theorem dX8_shares_111 : decode cX8_shares 111 = .ok (.getfield 75, 3) := by decide +kernel
theorem dX8_shares_114 : decode cX8_shares 114 = .ok (.iadd, 1) := by decide +kernel
theorem dX8_shares_115 : decode cX8_shares 115 = .ok (.putfield 130, 3) := by decide +kernel
theorem dX8_shares_118 : decode cX8_shares 118 = .ok (.iconst 0, 1) := by decide +kernel
theorem dX8_shares_119 : decode cX8_shares 119 = .ok (.ireturn, 1) := by decide +kernel
theorem dX8_isOver_0 : decode cX8_isOver 0 = .ok (.aload_n 0, 1) := by decide +kernel
theorem dX8_isOver_1 : decode cX8_isOver 1 = .ok (.iload_n 1, 1) := by decide +kernel
theorem dX8_isOver_2 : decode cX8_isOver 2 = .ok (.invokevirtual 126, 3) := by decide +kernel
theorem dX8_isOver_5 : decode cX8_isOver 5 = .ok (.lstore_n 2, 1) := by decide +kernel
theorem dX8_isOver_6 : decode cX8_isOver 6 = .ok (.lload_n 2, 1) := by decide +kernel
theorem dX8_isOver_7 : decode cX8_isOver 7 = .ok (.aload_n 0, 1) := by decide +kernel
theorem dX8_isOver_8 : decode cX8_isOver 8 = .ok (.iload_n 1, 1) := by decide +kernel
theorem dX8_isOver_9 : decode cX8_isOver 9 = .ok (.invokevirtual 92, 3) := by decide +kernel
theorem dX8_isOver_12 : decode cX8_isOver 12 = .ok (.i2l, 1) := by decide +kernel
theorem dX8_isOver_13 : decode cX8_isOver 13 = .ok (.aload_n 0, 1) := by decide +kernel
theorem dX8_isOver_14 : decode cX8_isOver 14 = .ok (.getfield 98, 3) := by decide +kernel
theorem dX8_isOver_17 : decode cX8_isOver 17 = .ok (.lmul, 1) := by decide +kernel
theorem dX8_isOver_18 : decode cX8_isOver 18 = .ok (.lcmp, 1) := by decide +kernel
theorem dX8_isOver_19 : decode cX8_isOver 19 = .ok (.ifCond .gt 25, 3) := by decide +kernel
theorem dX8_isOver_22 : decode cX8_isOver 22 = .ok (.lload_n 2, 1) := by decide +kernel
theorem dX8_isOver_23 : decode cX8_isOver 23 = .ok (.aload_n 0, 1) := by decide +kernel
theorem dX8_isOver_24 : decode cX8_isOver 24 = .ok (.aload_n 0, 1) := by decide +kernel
theorem dX8_isOver_25 : decode cX8_isOver 25 = .ok (.getfield 25, 3) := by decide +kernel
theorem dX8_isOver_28 : decode cX8_isOver 28 = .ok (.iload_n 1, 1) := by decide +kernel
theorem dX8_isOver_29 : decode cX8_isOver 29 = .ok (.iaload, 1) := by decide +kernel
theorem dX8_isOver_30 : decode cX8_isOver 30 = .ok (.invokevirtual 86, 3) := by decide +kernel
theorem dX8_isOver_33 : decode cX8_isOver 33 = .ok (.ineg, 1) := by decide +kernel
theorem dX8_isOver_34 : decode cX8_isOver 34 = .ok (.i2l, 1) := by decide +kernel
theorem dX8_isOver_35 : decode cX8_isOver 35 = .ok (.aload_n 0, 1) := by decide +kernel
theorem dX8_isOver_36 : decode cX8_isOver 36 = .ok (.getfield 98, 3) := by decide +kernel
theorem dX8_isOver_39 : decode cX8_isOver 39 = .ok (.lmul, 1) := by decide +kernel
theorem dX8_isOver_40 : decode cX8_isOver 40 = .ok (.lcmp, 1) := by decide +kernel
theorem dX8_isOver_41 : decode cX8_isOver 41 = .ok (.ifCond .ge 7, 3) := by decide +kernel
theorem dX8_isOver_44 : decode cX8_isOver 44 = .ok (.iconst 1, 1) := by decide +kernel
theorem dX8_isOver_45 : decode cX8_isOver 45 = .ok (.goto 4, 3) := by decide +kernel
theorem dX8_isOver_48 : decode cX8_isOver 48 = .ok (.iconst 0, 1) := by decide +kernel
theorem dX8_isOver_49 : decode cX8_isOver 49 = .ok (.ireturn, 1) := by decide +kernel
theorem dX8_over_0 : decode cX8_over 0 = .ok (.iload_n 1, 1) := by decide +kernel
theorem dX8_over_1 : decode cX8_over 1 = .ok (.invokestatic 95, 3) := by decide +kernel
theorem dX8_over_4 : decode cX8_over 4 = .ok (.ifCond .ne 5, 3) := by decide +kernel
theorem dX8_over_7 : decode cX8_over 7 = .ok (.iconst (-1), 1) := by decide +kernel
theorem dX8_over_8 : decode cX8_over 8 = .ok (.ireturn, 1) := by decide +kernel
theorem dX8_over_9 : decode cX8_over 9 = .ok (.aload_n 0, 1) := by decide +kernel
theorem dX8_over_10 : decode cX8_over 10 = .ok (.invokevirtual 115, 3) := by decide +kernel
theorem dX8_over_13 : decode cX8_over 13 = .ok (.istore_n 2, 1) := by decide +kernel
theorem dX8_over_14 : decode cX8_over 14 = .ok (.aload_n 0, 1) := by decide +kernel
theorem dX8_over_15 : decode cX8_over 15 = .ok (.iload_n 2, 1) := by decide +kernel
theorem dX8_over_16 : decode cX8_over 16 = .ok (.iload_n 1, 1) := by decide +kernel
theorem dX8_over_17 : decode cX8_over 17 = .ok (.invokevirtual 119, 3) := by decide +kernel
theorem dX8_over_20 : decode cX8_over 20 = .ok (.ifCond .ne 6, 3) := by decide +kernel
theorem dX8_over_23 : decode cX8_over 23 = .ok (.bipush (-2), 2) := by decide +kernel
theorem dX8_over_25 : decode cX8_over 25 = .ok (.ireturn, 1) := by decide +kernel
theorem dX8_over_26 : decode cX8_over 26 = .ok (.iconst 0, 1) := by decide +kernel
theorem dX8_over_27 : decode cX8_over 27 = .ok (.istore_n 3, 1) := by decide +kernel
theorem dX8_over_28 : decode cX8_over 28 = .ok (.iconst 0, 1) := by decide +kernel
theorem dX8_over_29 : decode cX8_over 29 = .ok (.istore 4, 2) := by decide +kernel
theorem dX8_over_31 : decode cX8_over 31 = .ok (.iload 4, 2) := by decide +kernel
theorem dX8_over_33 : decode cX8_over 33 = .ok (.aload_n 0, 1) := by decide +kernel
theorem dX8_over_34 : decode cX8_over 34 = .ok (.getfield 75, 3) := by decide +kernel
theorem dX8_over_37 : decode cX8_over 37 = .ok (.if_icmp .ge 39, 3) := by decide +kernel
theorem dX8_over_40 : decode cX8_over 40 = .ok (.iload_n 3, 1) := by decide +kernel
theorem dX8_over_41 : decode cX8_over 41 = .ok (.iload_n 2, 1) := by decide +kernel
theorem dX8_over_42 : decode cX8_over 42 = .ok (.iload 4, 2) := by decide +kernel
theorem dX8_over_44 : decode cX8_over 44 = .ok (.ishr, 1) := by decide +kernel
theorem dX8_over_45 : decode cX8_over 45 = .ok (.iconst 1, 1) := by decide +kernel
theorem dX8_over_46 : decode cX8_over 46 = .ok (.iand, 1) := by decide +kernel
theorem dX8_over_47 : decode cX8_over 47 = .ok (.iconst 1, 1) := by decide +kernel
theorem dX8_over_48 : decode cX8_over 48 = .ok (.if_icmp .ne 19, 3) := by decide +kernel
theorem dX8_over_51 : decode cX8_over 51 = .ok (.aload_n 0, 1) := by decide +kernel
theorem dX8_over_52 : decode cX8_over 52 = .ok (.iload 4, 2) := by decide +kernel
theorem dX8_over_54 : decode cX8_over 54 = .ok (.invokevirtual 133, 3) := by decide +kernel
theorem dX8_over_57 : decode cX8_over 57 = .ok (.ifCond .eq 10, 3) := by decide +kernel
theorem dX8_over_60 : decode cX8_over 60 = .ok (.iconst 1, 1) := by decide +kernel
theorem dX8_over_61 : decode cX8_over 61 = .ok (.iload 4, 2) := by decide +kernel
theorem dX8_over_63 : decode cX8_over 63 = .ok (.ishl, 1) := by decide +kernel
theorem dX8_over_64 : decode cX8_over 64 = .ok (.goto 4, 3) := by decide +kernel
theorem dX8_over_67 : decode cX8_over 67 = .ok (.iconst 0, 1) := by decide +kernel
theorem dX8_over_68 : decode cX8_over 68 = .ok (.ior, 1) := by decide +kernel
theorem dX8_over_69 : decode cX8_over 69 = .ok (.istore_n 3, 1) := by decide +kernel
theorem dX8_over_70 : decode cX8_over 70 = .ok (.iinc 4 1, 3) := by decide +kernel
theorem dX8_over_73 : decode cX8_over 73 = .ok (.goto (-42), 3) := by decide +kernel
theorem dX8_over_76 : decode cX8_over 76 = .ok (.iload_n 3, 1) := by decide +kernel
theorem dX8_over_77 : decode cX8_over 77 = .ok (.ireturn, 1) := by decide +kernel
theorem dX8_isLess_0 : decode cX8_isLess 0 = .ok (.lload_n 0, 1) := by decide +kernel
theorem dX8_isLess_1 : decode cX8_isLess 1 = .ok (.lstore 8, 2) := by decide +kernel
theorem dX8_isLess_3 : decode cX8_isLess 3 = .ok (.lload_n 2, 1) := by decide +kernel
theorem dX8_isLess_4 : decode cX8_isLess 4 = .ok (.lstore 10, 2) := by decide +kernel
theorem dX8_isLess_6 : decode cX8_isLess 6 = .ok (.lload 4, 2) := by decide +kernel
theorem dX8_isLess_8 : decode cX8_isLess 8 = .ok (.lstore 12, 2) := by decide +kernel
theorem dX8_isLess_10 : decode cX8_isLess 10 = .ok (.lload 6, 2) := by decide +kernel
theorem dX8_isLess_12 : decode cX8_isLess 12 = .ok (.lstore 14, 2) := by decide +kernel
theorem dX8_isLess_14 : decode cX8_isLess 14 = .ok (.iconst 0, 1) := by decide +kernel
theorem dX8_isLess_15 : decode cX8_isLess 15 = .ok (.istore 16, 2) := by decide +kernel
theorem dX8_isLess_17 : decode cX8_isLess 17 = .ok (.lload 8, 2) := by decide +kernel
theorem dX8_isLess_19 : decode cX8_isLess 19 = .ok (.lload 10, 2) := by decide +kernel
theorem dX8_isLess_21 : decode cX8_isLess 21 = .ok (.ldiv, 1) := by decide +kernel
theorem dX8_isLess_22 : decode cX8_isLess 22 = .ok (.lstore 17, 2) := by decide +kernel
theorem dX8_isLess_24 : decode cX8_isLess 24 = .ok (.lload 12, 2) := by decide +kernel
theorem dX8_isLess_26 : decode cX8_isLess 26 = .ok (.lload 14, 2) := by decide +kernel
theorem dX8_isLess_28 : decode cX8_isLess 28 = .ok (.ldiv, 1) := by decide +kernel
theorem dX8_isLess_29 : decode cX8_isLess 29 = .ok (.lstore 19, 2) := by decide +kernel
theorem dX8_isLess_31 : decode cX8_isLess 31 = .ok (.lload 17, 2) := by decide +kernel
theorem dX8_isLess_33 : decode cX8_isLess 33 = .ok (.lload 19, 2) := by decide +kernel
theorem dX8_isLess_35 : decode cX8_isLess 35 = .ok (.lcmp, 1) := by decide +kernel
theorem dX8_isLess_36 : decode cX8_isLess 36 = .ok (.ifCond .eq 38, 3) := by decide +kernel
theorem dX8_isLess_39 : decode cX8_isLess 39 = .ok (.iload 16, 2) := by decide +kernel
theorem dX8_isLess_41 : decode cX8_isLess 41 = .ok (.ifCond .eq 19, 3) := by decide +kernel
theorem dX8_isLess_44 : decode cX8_isLess 44 = .ok (.lload 17, 2) := by decide +kernel
theorem dX8_isLess_46 : decode cX8_isLess 46 = .ok (.lload 19, 2) := by decide +kernel
theorem dX8_isLess_48 : decode cX8_isLess 48 = .ok (.lcmp, 1) := by decide +kernel
theorem dX8_isLess_49 : decode cX8_isLess 49 = .ok (.ifCond .le 7, 3) := by decide +kernel
theorem dX8_isLess_52 : decode cX8_isLess 52 = .ok (.iconst 1, 1) := by decide +kernel
theorem dX8_isLess_53 : decode cX8_isLess 53 = .ok (.goto 20, 3) := by decide +kernel
theorem dX8_isLess_56 : decode cX8_isLess 56 = .ok (.iconst 0, 1) := by decide +kernel
theorem dX8_isLess_57 : decode cX8_isLess 57 = .ok (.goto 16, 3) := by decide +kernel
theorem dX8_isLess_60 : decode cX8_isLess 60 = .ok (.lload 17, 2) := by decide +kernel
theorem dX8_isLess_62 : decode cX8_isLess 62 = .ok (.lload 19, 2) := by decide +kernel
theorem dX8_isLess_64 : decode cX8_isLess 64 = .ok (.lcmp, 1) := by decide +kernel
theorem dX8_isLess_65 : decode cX8_isLess 65 = .ok (.ifCond .ge 7, 3) := by decide +kernel
theorem dX8_isLess_68 : decode cX8_isLess 68 = .ok (.iconst 1, 1) := by decide +kernel
theorem dX8_isLess_69 : decode cX8_isLess 69 = .ok (.goto 4, 3) := by decide +kernel
theorem dX8_isLess_72 : decode cX8_isLess 72 = .ok (.iconst 0, 1) := by decide +kernel
theorem dX8_isLess_73 : decode cX8_isLess 73 = .ok (.ireturn, 1) := by decide +kernel
theorem dX8_isLess_74 : decode cX8_isLess 74 = .ok (.lload 8, 2) := by decide +kernel
theorem dX8_isLess_76 : decode cX8_isLess 76 = .ok (.lload 17, 2) := by decide +kernel
theorem dX8_isLess_78 : decode cX8_isLess 78 = .ok (.lload 10, 2) := by decide +kernel
theorem dX8_isLess_80 : decode cX8_isLess 80 = .ok (.lmul, 1) := by decide +kernel
theorem dX8_isLess_81 : decode cX8_isLess 81 = .ok (.lsub, 1) := by decide +kernel
theorem dX8_isLess_82 : decode cX8_isLess 82 = .ok (.lstore 21, 2) := by decide +kernel
theorem dX8_isLess_84 : decode cX8_isLess 84 = .ok (.lload 12, 2) := by decide +kernel
theorem dX8_isLess_86 : decode cX8_isLess 86 = .ok (.lload 19, 2) := by decide +kernel
theorem dX8_isLess_88 : decode cX8_isLess 88 = .ok (.lload 14, 2) := by decide +kernel
theorem dX8_isLess_90 : decode cX8_isLess 90 = .ok (.lmul, 1) := by decide +kernel
theorem dX8_isLess_91 : decode cX8_isLess 91 = .ok (.lsub, 1) := by decide +kernel
theorem dX8_isLess_92 : decode cX8_isLess 92 = .ok (.lstore 23, 2) := by decide +kernel
theorem dX8_isLess_94 : decode cX8_isLess 94 = .ok (.lload 21, 2) := by decide +kernel
theorem dX8_isLess_96 : decode cX8_isLess 96 = .ok (.lconst 0, 1) := by decide +kernel
theorem dX8_isLess_97 : decode cX8_isLess 97 = .ok (.lcmp, 1) := by decide +kernel
theorem dX8_isLess_98 : decode cX8_isLess 98 = .ok (.ifCond .eq 10, 3) := by decide +kernel
theorem dX8_isLess_101 : decode cX8_isLess 101 = .ok (.lload 23, 2) := by decide +kernel
theorem dX8_isLess_103 : decode cX8_isLess 103 = .ok (.lconst 0, 1) := by decide +kernel
theorem dX8_isLess_104 : decode cX8_isLess 104 = .ok (.lcmp, 1) := by decide +kernel
theorem dX8_isLess_105 : decode cX8_isLess 105 = .ok (.ifCond .ne 50, 3) := by decide +kernel
theorem dX8_isLess_108 : decode cX8_isLess 108 = .ok (.iload 16, 2) := by decide +kernel
theorem dX8_isLess_110 : decode cX8_isLess 110 = .ok (.ifCond .eq 25, 3) := by decide +kernel
theorem dX8_isLess_113 : decode cX8_isLess 113 = .ok (.lload 23, 2) := by decide +kernel
theorem dX8_isLess_115 : decode cX8_isLess 115 = .ok (.lconst 0, 1) := by decide +kernel
theorem dX8_isLess_116 : decode cX8_isLess 116 = .ok (.lcmp, 1) := by decide +kernel
theorem dX8_isLess_117 : decode cX8_isLess 117 = .ok (.ifCond .ne 14, 3) := by decide +kernel
theorem dX8_isLess_120 : decode cX8_isLess 120 = .ok (.lload 21, 2) := by decide +kernel
theorem dX8_isLess_122 : decode cX8_isLess 122 = .ok (.lconst 0, 1) := by decide +kernel
theorem dX8_isLess_123 : decode cX8_isLess 123 = .ok (.lcmp, 1) := by decide +kernel
theorem dX8_isLess_124 : decode cX8_isLess 124 = .ok (.ifCond .eq 7, 3) := by decide +kernel
theorem dX8_isLess_127 : decode cX8_isLess 127 = .ok (.iconst 1, 1) := by decide +kernel
theorem dX8_isLess_128 : decode cX8_isLess 128 = .ok (.goto 26, 3) := by decide +kernel
theorem dX8_isLess_131 : decode cX8_isLess 131 = .ok (.iconst 0, 1) := by decide +kernel
theorem dX8_isLess_132 : decode cX8_isLess 132 = .ok (.goto 22, 3) := by decide +kernel
theorem dX8_isLess_135 : decode cX8_isLess 135 = .ok (.lload 21, 2) := by decide +kernel
theorem dX8_isLess_137 : decode cX8_isLess 137 = .ok (.lconst 0, 1) := by decide +kernel
theorem dX8_isLess_138 : decode cX8_isLess 138 = .ok (.lcmp, 1) := by decide +kernel
theorem dX8_isLess_139 : decode cX8_isLess 139 = .ok (.ifCond .ne 14, 3) := by decide +kernel
theorem dX8_isLess_142 : decode cX8_isLess 142 = .ok (.lload 23, 2) := by decide +kernel
theorem dX8_isLess_144 : decode cX8_isLess 144 = .ok (.lconst 0, 1) := by decide +kernel
theorem dX8_isLess_145 : decode cX8_isLess 145 = .ok (.lcmp, 1) := by decide +kernel
theorem dX8_isLess_146 : decode cX8_isLess 146 = .ok (.ifCond .eq 7, 3) := by decide +kernel
theorem dX8_isLess_149 : decode cX8_isLess 149 = .ok (.iconst 1, 1) := by decide +kernel
theorem dX8_isLess_150 : decode cX8_isLess 150 = .ok (.goto 4, 3) := by decide +kernel
theorem dX8_isLess_153 : decode cX8_isLess 153 = .ok (.iconst 0, 1) := by decide +kernel
theorem dX8_isLess_154 : decode cX8_isLess 154 = .ok (.ireturn, 1) := by decide +kernel
theorem dX8_isLess_155 : decode cX8_isLess 155 = .ok (.lload 10, 2) := by decide +kernel
theorem dX8_isLess_157 : decode cX8_isLess 157 = .ok (.lstore 8, 2) := by decide +kernel
theorem dX8_isLess_159 : decode cX8_isLess 159 = .ok (.lload 21, 2) := by decide +kernel
theorem dX8_isLess_161 : decode cX8_isLess 161 = .ok (.lstore 10, 2) := by decide +kernel
theorem dX8_isLess_163 : decode cX8_isLess 163 = .ok (.lload 14, 2) := by decide +kernel
theorem dX8_isLess_165 : decode cX8_isLess 165 = .ok (.lstore 12, 2) := by decide +kernel
theorem dX8_isLess_167 : decode cX8_isLess 167 = .ok (.lload 23, 2) := by decide +kernel
theorem dX8_isLess_169 : decode cX8_isLess 169 = .ok (.lstore 14, 2) := by decide +kernel
theorem dX8_isLess_171 : decode cX8_isLess 171 = .ok (.iload 16, 2) := by decide +kernel
theorem dX8_isLess_173 : decode cX8_isLess 173 = .ok (.ifCond .ne 7, 3) := by decide +kernel
theorem dX8_isLess_176 : decode cX8_isLess 176 = .ok (.iconst 1, 1) := by decide +kernel
theorem dX8_isLess_177 : decode cX8_isLess 177 = .ok (.goto 4, 3) := by decide +kernel
theorem dX8_isLess_180 : decode cX8_isLess 180 = .ok (.iconst 0, 1) := by decide +kernel
theorem dX8_isLess_181 : decode cX8_isLess 181 = .ok (.istore 16, 2) := by decide +kernel
theorem dX8_isLess_183 : decode cX8_isLess 183 = .ok (.goto (-166), 3) := by decide +kernel
theorem dX8_end_0 : decode cX8_end 0 = .ok (.iload_n 1, 1) := by decide +kernel
theorem dX8_end_1 : decode cX8_end 1 = .ok (.invokestatic 95, 3) := by decide +kernel
theorem dX8_end_4 : decode cX8_end 4 = .ok (.ifCond .ne 5, 3) := by decide +kernel
theorem dX8_end_7 : decode cX8_end 7 = .ok (.iconst (-1), 1) := by decide +kernel
theorem dX8_end_8 : decode cX8_end 8 = .ok (.ireturn, 1) := by decide +kernel
theorem dX8_end_9 : decode cX8_end 9 = .ok (.aload_n 0, 1) := by decide +kernel
theorem dX8_end_10 : decode cX8_end 10 = .ok (.invokevirtual 115, 3) := by decide +kernel
theorem dX8_end_13 : decode cX8_end 13 = .ok (.istore_n 2, 1) := by decide +kernel
theorem dX8_end_14 : decode cX8_end 14 = .ok (.aload_n 0, 1) := by decide +kernel
theorem dX8_end_15 : decode cX8_end 15 = .ok (.iload_n 2, 1) := by decide +kernel
theorem dX8_end_16 : decode cX8_end 16 = .ok (.iload_n 1, 1) := by decide +kernel
theorem dX8_end_17 : decode cX8_end 17 = .ok (.invokevirtual 119, 3) := by decide +kernel
theorem dX8_end_20 : decode cX8_end 20 = .ok (.ifCond .ne 6, 3) := by decide +kernel
theorem dX8_end_23 : decode cX8_end 23 = .ok (.bipush (-2), 2) := by decide +kernel
theorem dX8_end_25 : decode cX8_end 25 = .ok (.ireturn, 1) := by decide +kernel
theorem dX8_end_26 : decode cX8_end 26 = .ok (.bipush (-4), 2) := by decide +kernel
theorem dX8_end_28 : decode cX8_end 28 = .ok (.istore_n 3, 1) := by decide +kernel
theorem dX8_end_29 : decode cX8_end 29 = .ok (.lconst 1, 1) := by decide +kernel
theorem dX8_end_30 : decode cX8_end 30 = .ok (.lstore 4, 2) := by decide +kernel
theorem dX8_end_32 : decode cX8_end 32 = .ok (.lconst 1, 1) := by decide +kernel
theorem dX8_end_33 : decode cX8_end 33 = .ok (.lstore 6, 2) := by decide +kernel
theorem dX8_end_35 : decode cX8_end 35 = .ok (.iconst 0, 1) := by decide +kernel
theorem dX8_end_36 : decode cX8_end 36 = .ok (.istore 8, 2) := by decide +kernel
theorem dX8_end_38 : decode cX8_end 38 = .ok (.iload 8, 2) := by decide +kernel
theorem dX8_end_40 : decode cX8_end 40 = .ok (.aload_n 0, 1) := by decide +kernel
theorem dX8_end_41 : decode cX8_end 41 = .ok (.getfield 75, 3) := by decide +kernel
theorem dX8_end_44 : decode cX8_end 44 = .ok (.if_icmp .ge 117, 3) := by decide +kernel
theorem dX8_end_47 : decode cX8_end 47 = .ok (.iload_n 2, 1) := by decide +kernel
theorem dX8_end_48 : decode cX8_end 48 = .ok (.iload 8, 2) := by decide +kernel
theorem dX8_end_50 : decode cX8_end 50 = .ok (.ishr, 1) := by decide +kernel
theorem dX8_end_51 : decode cX8_end 51 = .ok (.iconst 1, 1) := by decide +kernel
theorem dX8_end_52 : decode cX8_end 52 = .ok (.iand, 1) := by decide +kernel
theorem dX8_end_53 : decode cX8_end 53 = .ok (.iconst 1, 1) := by decide +kernel
theorem dX8_end_54 : decode cX8_end 54 = .ok (.if_icmp .ne 12, 3) := by decide +kernel
theorem dX8_end_57 : decode cX8_end 57 = .ok (.aload_n 0, 1) := by decide +kernel
theorem dX8_end_58 : decode cX8_end 58 = .ok (.iload 8, 2) := by decide +kernel
theorem dX8_end_60 : decode cX8_end 60 = .ok (.invokevirtual 126, 3) := by decide +kernel
theorem dX8_end_63 : decode cX8_end 63 = .ok (.goto 4, 3) := by decide +kernel
theorem dX8_end_66 : decode cX8_end 66 = .ok (.lconst 0, 1) := by decide +kernel
theorem dX8_end_67 : decode cX8_end 67 = .ok (.lstore 9, 2) := by decide +kernel
theorem dX8_end_69 : decode cX8_end 69 = .ok (.lload 9, 2) := by decide +kernel
theorem dX8_end_71 : decode cX8_end 71 = .ok (.lconst 0, 1) := by decide +kernel
theorem dX8_end_72 : decode cX8_end 72 = .ok (.lcmp, 1) := by decide +kernel
theorem dX8_end_73 : decode cX8_end 73 = .ok (.ifCond .le 13, 3) := by decide +kernel
theorem dX8_end_76 : decode cX8_end 76 = .ok (.aload_n 0, 1) := by decide +kernel
theorem dX8_end_77 : decode cX8_end 77 = .ok (.iload 8, 2) := by decide +kernel
theorem dX8_end_79 : decode cX8_end 79 = .ok (.invokevirtual 92, 3) := by decide +kernel
theorem dX8_end_82 : decode cX8_end 82 = .ok (.i2l, 1) := by decide +kernel
theorem dX8_end_83 : decode cX8_end 83 = .ok (.goto 15, 3) := by decide +kernel
theorem dX8_end_86 : decode cX8_end 86 = .ok (.aload_n 0, 1) := by decide +kernel
theorem dX8_end_87 : decode cX8_end 87 = .ok (.aload_n 0, 1) := by decide +kernel
theorem dX8_end_88 : decode cX8_end 88 = .ok (.getfield 25, 3) := by decide +kernel
theorem dX8_end_91 : decode cX8_end 91 = .ok (.iload 8, 2) := by decide +kernel
theorem dX8_end_93 : decode cX8_end 93 = .ok (.iaload, 1) := by decide +kernel
theorem dX8_end_94 : decode cX8_end 94 = .ok (.invokevirtual 86, 3) := by decide +kernel
theorem dX8_end_97 : decode cX8_end 97 = .ok (.i2l, 1) := by decide +kernel
theorem dX8_end_98 : decode cX8_end 98 = .ok (.lstore 11, 2) := by decide +kernel
theorem dX8_end_100 : decode cX8_end 100 = .ok (.lload 9, 2) := by decide +kernel
theorem dX8_end_102 : decode cX8_end 102 = .ok (.lconst 0, 1) := by decide +kernel
theorem dX8_end_103 : decode cX8_end 103 = .ok (.lcmp, 1) := by decide +kernel
theorem dX8_end_104 : decode cX8_end 104 = .ok (.ifCond .ge 9, 3) := by decide +kernel
theorem dX8_end_107 : decode cX8_end 107 = .ok (.lload 9, 2) := by decide +kernel
theorem dX8_end_109 : decode cX8_end 109 = .ok (.lneg, 1) := by decide +kernel
theorem dX8_end_110 : decode cX8_end 110 = .ok (.goto 5, 3) := by decide +kernel
theorem dX8_end_113 : decode cX8_end 113 = .ok (.lload 9, 2) := by decide +kernel
theorem dX8_end_115 : decode cX8_end 115 = .ok (.lstore 13, 2) := by decide +kernel
theorem dX8_end_117 : decode cX8_end 117 = .ok (.lload 9, 2) := by decide +kernel
theorem dX8_end_119 : decode cX8_end 119 = .ok (.lconst 0, 1) := by decide +kernel
theorem dX8_end_120 : decode cX8_end 120 = .ok (.lcmp, 1) := by decide +kernel
theorem dX8_end_121 : decode cX8_end 121 = .ok (.ifCond .eq 34, 3) := by decide +kernel
theorem dX8_end_124 : decode cX8_end 124 = .ok (.iload_n 3, 1) := by decide +kernel
theorem dX8_end_125 : decode cX8_end 125 = .ok (.bipush (-4), 2) := by decide +kernel
theorem dX8_end_127 : decode cX8_end 127 = .ok (.if_icmp .eq 17, 3) := by decide +kernel
theorem dX8_end_130 : decode cX8_end 130 = .ok (.lload 11, 2) := by decide +kernel
theorem dX8_end_132 : decode cX8_end 132 = .ok (.lload 13, 2) := by decide +kernel
theorem dX8_end_134 : decode cX8_end 134 = .ok (.lload 4, 2) := by decide +kernel
theorem dX8_end_136 : decode cX8_end 136 = .ok (.lload 6, 2) := by decide +kernel
theorem dX8_end_138 : decode cX8_end 138 = .ok (.invokestatic 136, 3) := by decide +kernel
theorem dX8_end_141 : decode cX8_end 141 = .ok (.ifCond .eq 14, 3) := by decide +kernel
theorem dX8_end_144 : decode cX8_end 144 = .ok (.iload 8, 2) := by decide +kernel
theorem dX8_end_146 : decode cX8_end 146 = .ok (.istore_n 3, 1) := by decide +kernel
theorem dX8_end_147 : decode cX8_end 147 = .ok (.lload 11, 2) := by decide +kernel
theorem dX8_end_149 : decode cX8_end 149 = .ok (.lstore 4, 2) := by decide +kernel
theorem dX8_end_151 : decode cX8_end 151 = .ok (.lload 13, 2) := by decide +kernel
theorem dX8_end_153 : decode cX8_end 153 = .ok (.lstore 6, 2) := by decide +kernel
theorem dX8_end_155 : decode cX8_end 155 = .ok (.iinc 8 1, 3) := by decide +kernel
theorem dX8_end_158 : decode cX8_end 158 = .ok (.goto (-120), 3) := by decide +kernel
theorem dX8_end_161 : decode cX8_end 161 = .ok (.iload_n 3, 1) := by decide +kernel
theorem dX8_end_162 : decode cX8_end 162 = .ok (.bipush (-4), 2) := by decide +kernel
theorem dX8_end_164 : decode cX8_end 164 = .ok (.if_icmp .eq 22, 3) := by decide +kernel
theorem dX8_end_167 : decode cX8_end 167 = .ok (.aload_n 0, 1) := by decide +kernel
theorem dX8_end_168 : decode cX8_end 168 = .ok (.iconst 0, 1) := by decide +kernel
theorem dX8_end_169 : decode cX8_end 169 = .ok (.lload 4, 2) := by decide +kernel
theorem dX8_end_171 : decode cX8_end 171 = .ok (.aload_n 0, 1) := by decide +kernel
theorem dX8_end_172 : decode cX8_end 172 = .ok (.getfield 98, 3) := by decide +kernel
theorem dX8_end_175 : decode cX8_end 175 = .ok (.lmul, 1) := by decide +kernel
theorem dX8_end_176 : decode cX8_end 176 = .ok (.lload 6, 2) := by decide +kernel
theorem dX8_end_178 : decode cX8_end 178 = .ok (.invokevirtual 122, 3) := by decide +kernel
theorem dX8_end_181 : decode cX8_end 181 = .ok (.aload_n 0, 1) := by decide +kernel
theorem dX8_end_182 : decode cX8_end 182 = .ok (.iconst 1, 1) := by decide +kernel
theorem dX8_end_183 : decode cX8_end 183 = .ok (.putfield 130, 3) := by decide +kernel
theorem dX8_end_186 : decode cX8_end 186 = .ok (.iload_n 3, 1) := by decide +kernel
theorem dX8_end_187 : decode cX8_end 187 = .ok (.ireturn, 1) := by decide +kernel
theorem dX8_areApart_0 : decode cX8_areApart 0 = .ok (.iconst 1, 1) := by decide +kernel
theorem dX8_areApart_1 : decode cX8_areApart 1 = .ok (.istore_n 2, 1) := by decide +kernel
theorem dX8_areApart_2 : decode cX8_areApart 2 = .ok (.iconst 0, 1) := by decide +kernel
theorem dX8_areApart_3 : decode cX8_areApart 3 = .ok (.istore_n 3, 1) := by decide +kernel
theorem dX8_areApart_4 : decode cX8_areApart 4 = .ok (.iload_n 3, 1) := by decide +kernel
theorem dX8_areApart_5 : decode cX8_areApart 5 = .ok (.aload_n 0, 1) := by decide +kernel
theorem dX8_areApart_6 : decode cX8_areApart 6 = .ok (.getfield 75, 3) := by decide +kernel
theorem dX8_areApart_9 : decode cX8_areApart 9 = .ok (.if_icmp .ge 106, 3) := by decide +kernel
theorem dX8_areApart_12 : decode cX8_areApart 12 = .ok (.iconst 0, 1) := by decide +kernel
theorem dX8_areApart_13 : decode cX8_areApart 13 = .ok (.istore 4, 2) := by decide +kernel
theorem dX8_areApart_15 : decode cX8_areApart 15 = .ok (.iload 4, 2) := by decide +kernel
theorem dX8_areApart_17 : decode cX8_areApart 17 = .ok (.iload_n 3, 1) := by decide +kernel
theorem dX8_areApart_18 : decode cX8_areApart 18 = .ok (.if_icmp .ge 91, 3) := by decide +kernel
theorem dX8_areApart_21 : decode cX8_areApart 21 = .ok (.aload_n 0, 1) := by decide +kernel
theorem dX8_areApart_22 : decode cX8_areApart 22 = .ok (.getfield 19, 3) := by decide +kernel
theorem dX8_areApart_25 : decode cX8_areApart 25 = .ok (.iload_n 3, 1) := by decide +kernel
theorem dX8_areApart_26 : decode cX8_areApart 26 = .ok (.iaload, 1) := by decide +kernel
theorem dX8_areApart_27 : decode cX8_areApart 27 = .ok (.aload_n 0, 1) := by decide +kernel
theorem dX8_areApart_28 : decode cX8_areApart 28 = .ok (.getfield 19, 3) := by decide +kernel
theorem dX8_areApart_31 : decode cX8_areApart 31 = .ok (.iload 4, 2) := by decide +kernel
theorem dX8_areApart_33 : decode cX8_areApart 33 = .ok (.iaload, 1) := by decide +kernel
theorem dX8_areApart_34 : decode cX8_areApart 34 = .ok (.isub, 1) := by decide +kernel
theorem dX8_areApart_35 : decode cX8_areApart 35 = .ok (.istore 5, 2) := by decide +kernel
theorem dX8_areApart_37 : decode cX8_areApart 37 = .ok (.aload_n 0, 1) := by decide +kernel
theorem dX8_areApart_38 : decode cX8_areApart 38 = .ok (.getfield 22, 3) := by decide +kernel
theorem dX8_areApart_41 : decode cX8_areApart 41 = .ok (.iload_n 3, 1) := by decide +kernel
theorem dX8_areApart_42 : decode cX8_areApart 42 = .ok (.iaload, 1) := by decide +kernel
theorem dX8_areApart_43 : decode cX8_areApart 43 = .ok (.aload_n 0, 1) := by decide +kernel
theorem dX8_areApart_44 : decode cX8_areApart 44 = .ok (.getfield 22, 3) := by decide +kernel
theorem dX8_areApart_47 : decode cX8_areApart 47 = .ok (.iload 4, 2) := by decide +kernel
theorem dX8_areApart_49 : decode cX8_areApart 49 = .ok (.iaload, 1) := by decide +kernel
theorem dX8_areApart_50 : decode cX8_areApart 50 = .ok (.isub, 1) := by decide +kernel
theorem dX8_areApart_51 : decode cX8_areApart 51 = .ok (.istore 6, 2) := by decide +kernel
theorem dX8_areApart_53 : decode cX8_areApart 53 = .ok (.iload_n 2, 1) := by decide +kernel
theorem dX8_areApart_54 : decode cX8_areApart 54 = .ok (.ifCond .eq 47, 3) := by decide +kernel
theorem dX8_areApart_57 : decode cX8_areApart 57 = .ok (.iload_n 1, 1) := by decide +kernel
theorem dX8_areApart_58 : decode cX8_areApart 58 = .ok (.iload_n 3, 1) := by decide +kernel
theorem dX8_areApart_59 : decode cX8_areApart 59 = .ok (.ishr, 1) := by decide +kernel
theorem dX8_areApart_60 : decode cX8_areApart 60 = .ok (.iconst 1, 1) := by decide +kernel
theorem dX8_areApart_61 : decode cX8_areApart 61 = .ok (.iand, 1) := by decide +kernel
theorem dX8_areApart_62 : decode cX8_areApart 62 = .ok (.ifCond .eq 35, 3) := by decide +kernel
theorem dX8_areApart_65 : decode cX8_areApart 65 = .ok (.iload_n 1, 1) := by decide +kernel
theorem dX8_areApart_66 : decode cX8_areApart 66 = .ok (.iload 4, 2) := by decide +kernel
theorem dX8_areApart_68 : decode cX8_areApart 68 = .ok (.ishr, 1) := by decide +kernel
theorem dX8_areApart_69 : decode cX8_areApart 69 = .ok (.iconst 1, 1) := by decide +kernel
theorem dX8_areApart_70 : decode cX8_areApart 70 = .ok (.iand, 1) := by decide +kernel
theorem dX8_areApart_71 : decode cX8_areApart 71 = .ok (.ifCond .eq 26, 3) := by decide +kernel
theorem dX8_areApart_74 : decode cX8_areApart 74 = .ok (.iload 5, 2) := by decide +kernel
theorem dX8_areApart_76 : decode cX8_areApart 76 = .ok (.iload 5, 2) := by decide +kernel
theorem dX8_areApart_78 : decode cX8_areApart 78 = .ok (.imul, 1) := by decide +kernel
theorem dX8_areApart_79 : decode cX8_areApart 79 = .ok (.iload 6, 2) := by decide +kernel
theorem dX8_areApart_81 : decode cX8_areApart 81 = .ok (.iload 6, 2) := by decide +kernel
theorem dX8_areApart_83 : decode cX8_areApart 83 = .ok (.imul, 1) := by decide +kernel
theorem dX8_areApart_84 : decode cX8_areApart 84 = .ok (.iadd, 1) := by decide +kernel
theorem dX8_areApart_85 : decode cX8_areApart 85 = .ok (.aload_n 0, 1) := by decide +kernel
theorem dX8_areApart_86 : decode cX8_areApart 86 = .ok (.getfield 65, 3) := by decide +kernel
theorem dX8_areApart_89 : decode cX8_areApart 89 = .ok (.aload_n 0, 1) := by decide +kernel
theorem dX8_areApart_90 : decode cX8_areApart 90 = .ok (.getfield 65, 3) := by decide +kernel
theorem dX8_areApart_93 : decode cX8_areApart 93 = .ok (.imul, 1) := by decide +kernel
theorem dX8_areApart_94 : decode cX8_areApart 94 = .ok (.if_icmp .lt 7, 3) := by decide +kernel
theorem dX8_areApart_97 : decode cX8_areApart 97 = .ok (.iconst 1, 1) := by decide +kernel
theorem dX8_areApart_98 : decode cX8_areApart 98 = .ok (.goto 4, 3) := by decide +kernel
theorem dX8_areApart_101 : decode cX8_areApart 101 = .ok (.iconst 0, 1) := by decide +kernel
theorem dX8_areApart_102 : decode cX8_areApart 102 = .ok (.istore_n 2, 1) := by decide +kernel
theorem dX8_areApart_103 : decode cX8_areApart 103 = .ok (.iinc 4 1, 3) := by decide +kernel
theorem dX8_areApart_106 : decode cX8_areApart 106 = .ok (.goto (-91), 3) := by decide +kernel
theorem dX8_areApart_109 : decode cX8_areApart 109 = .ok (.iinc 3 1, 3) := by decide +kernel
theorem dX8_areApart_112 : decode cX8_areApart 112 = .ok (.goto (-108), 3) := by decide +kernel
theorem dX8_areApart_115 : decode cX8_areApart 115 = .ok (.iload_n 2, 1) := by decide +kernel
theorem dX8_areApart_116 : decode cX8_areApart 116 = .ok (.ireturn, 1) := by decide +kernel
theorem dX8_holds_0 : decode cX8_holds 0 = .ok (.aload_n 0, 1) := by decide +kernel
theorem dX8_holds_1 : decode cX8_holds 1 = .ok (.iload_n 1, 1) := by decide +kernel
theorem dX8_holds_2 : decode cX8_holds 2 = .ok (.invokevirtual 140, 3) := by decide +kernel
theorem dX8_holds_5 : decode cX8_holds 5 = .ok (.istore_n 2, 1) := by decide +kernel
theorem dX8_holds_6 : decode cX8_holds 6 = .ok (.iconst 0, 1) := by decide +kernel
theorem dX8_holds_7 : decode cX8_holds 7 = .ok (.istore_n 3, 1) := by decide +kernel
theorem dX8_holds_8 : decode cX8_holds 8 = .ok (.iload_n 3, 1) := by decide +kernel
theorem dX8_holds_9 : decode cX8_holds 9 = .ok (.iconst 3, 1) := by decide +kernel
theorem dX8_holds_10 : decode cX8_holds 10 = .ok (.if_icmp .ge 66, 3) := by decide +kernel
theorem dX8_holds_13 : decode cX8_holds 13 = .ok (.iload_n 2, 1) := by decide +kernel
theorem dX8_holds_14 : decode cX8_holds 14 = .ok (.ifCond .eq 62, 3) := by decide +kernel
theorem dX8_holds_17 : decode cX8_holds 17 = .ok (.aload_n 0, 1) := by decide +kernel
theorem dX8_holds_18 : decode cX8_holds 18 = .ok (.iload_n 1, 1) := by decide +kernel
theorem dX8_holds_19 : decode cX8_holds 19 = .ok (.iload_n 3, 1) := by decide +kernel
theorem dX8_holds_20 : decode cX8_holds 20 = .ok (.invokevirtual 119, 3) := by decide +kernel
theorem dX8_holds_23 : decode cX8_holds 23 = .ok (.istore_n 2, 1) := by decide +kernel
theorem dX8_holds_24 : decode cX8_holds 24 = .ok (.iconst 0, 1) := by decide +kernel
theorem dX8_holds_25 : decode cX8_holds 25 = .ok (.istore 4, 2) := by decide +kernel
theorem dX8_holds_27 : decode cX8_holds 27 = .ok (.iload 4, 2) := by decide +kernel
theorem dX8_holds_29 : decode cX8_holds 29 = .ok (.aload_n 0, 1) := by decide +kernel
theorem dX8_holds_30 : decode cX8_holds 30 = .ok (.getfield 75, 3) := by decide +kernel
theorem dX8_holds_33 : decode cX8_holds 33 = .ok (.if_icmp .ge 37, 3) := by decide +kernel
theorem dX8_holds_36 : decode cX8_holds 36 = .ok (.iload_n 2, 1) := by decide +kernel
theorem dX8_holds_37 : decode cX8_holds 37 = .ok (.ifCond .eq 33, 3) := by decide +kernel
theorem dX8_holds_40 : decode cX8_holds 40 = .ok (.iload_n 1, 1) := by decide +kernel
theorem dX8_holds_41 : decode cX8_holds 41 = .ok (.iload 4, 2) := by decide +kernel
theorem dX8_holds_43 : decode cX8_holds 43 = .ok (.ishr, 1) := by decide +kernel
theorem dX8_holds_44 : decode cX8_holds 44 = .ok (.iconst 1, 1) := by decide +kernel
theorem dX8_holds_45 : decode cX8_holds 45 = .ok (.iand, 1) := by decide +kernel
theorem dX8_holds_46 : decode cX8_holds 46 = .ok (.ifCond .eq 12, 3) := by decide +kernel
theorem dX8_holds_49 : decode cX8_holds 49 = .ok (.aload_n 0, 1) := by decide +kernel
theorem dX8_holds_50 : decode cX8_holds 50 = .ok (.iload 4, 2) := by decide +kernel
theorem dX8_holds_52 : decode cX8_holds 52 = .ok (.invokevirtual 133, 3) := by decide +kernel
theorem dX8_holds_55 : decode cX8_holds 55 = .ok (.ifCond .ne 7, 3) := by decide +kernel
theorem dX8_holds_58 : decode cX8_holds 58 = .ok (.iconst 1, 1) := by decide +kernel
theorem dX8_holds_59 : decode cX8_holds 59 = .ok (.goto 4, 3) := by decide +kernel
theorem dX8_holds_62 : decode cX8_holds 62 = .ok (.iconst 0, 1) := by decide +kernel
theorem dX8_holds_63 : decode cX8_holds 63 = .ok (.istore_n 2, 1) := by decide +kernel
theorem dX8_holds_64 : decode cX8_holds 64 = .ok (.iinc 4 1, 3) := by decide +kernel
theorem dX8_holds_67 : decode cX8_holds 67 = .ok (.goto (-40), 3) := by decide +kernel
theorem dX8_holds_70 : decode cX8_holds 70 = .ok (.iinc 3 1, 3) := by decide +kernel
theorem dX8_holds_73 : decode cX8_holds 73 = .ok (.goto (-65), 3) := by decide +kernel
theorem dX8_holds_76 : decode cX8_holds 76 = .ok (.iload_n 2, 1) := by decide +kernel
theorem dX8_holds_77 : decode cX8_holds 77 = .ok (.ireturn, 1) := by decide +kernel
theorem dX8_bits_0 : decode cX8_bits 0 = .ok (.iconst 0, 1) := by decide +kernel
theorem dX8_bits_1 : decode cX8_bits 1 = .ok (.istore_n 1, 1) := by decide +kernel
theorem dX8_bits_2 : decode cX8_bits 2 = .ok (.iconst 0, 1) := by decide +kernel
theorem dX8_bits_3 : decode cX8_bits 3 = .ok (.istore_n 2, 1) := by decide +kernel
theorem dX8_bits_4 : decode cX8_bits 4 = .ok (.iload_n 2, 1) := by decide +kernel
theorem dX8_bits_5 : decode cX8_bits 5 = .ok (.bipush 12, 2) := by decide +kernel
theorem dX8_bits_7 : decode cX8_bits 7 = .ok (.if_icmp .ge 17, 3) := by decide +kernel
theorem dX8_bits_10 : decode cX8_bits 10 = .ok (.iload_n 1, 1) := by decide +kernel
theorem dX8_bits_11 : decode cX8_bits 11 = .ok (.iload_n 0, 1) := by decide +kernel
theorem dX8_bits_12 : decode cX8_bits 12 = .ok (.iload_n 2, 1) := by decide +kernel
theorem dX8_bits_13 : decode cX8_bits 13 = .ok (.ishr, 1) := by decide +kernel
theorem dX8_bits_14 : decode cX8_bits 14 = .ok (.iconst 1, 1) := by decide +kernel
theorem dX8_bits_15 : decode cX8_bits 15 = .ok (.iand, 1) := by decide +kernel
theorem dX8_bits_16 : decode cX8_bits 16 = .ok (.iadd, 1) := by decide +kernel
theorem dX8_bits_17 : decode cX8_bits 17 = .ok (.istore_n 1, 1) := by decide +kernel
theorem dX8_bits_18 : decode cX8_bits 18 = .ok (.iinc 2 1, 3) := by decide +kernel
theorem dX8_bits_21 : decode cX8_bits 21 = .ok (.goto (-17), 3) := by decide +kernel
theorem dX8_bits_24 : decode cX8_bits 24 = .ok (.iload_n 1, 1) := by decide +kernel
theorem dX8_bits_25 : decode cX8_bits 25 = .ok (.ireturn, 1) := by decide +kernel
theorem dX8_least_0 : decode cX8_least 0 = .ok (.aload_n 0, 1) := by decide +kernel
theorem dX8_least_1 : decode cX8_least 1 = .ok (.invokevirtual 115, 3) := by decide +kernel
theorem dX8_least_4 : decode cX8_least 4 = .ok (.istore_n 1, 1) := by decide +kernel
theorem dX8_least_5 : decode cX8_least 5 = .ok (.iload_n 1, 1) := by decide +kernel
theorem dX8_least_6 : decode cX8_least 6 = .ok (.invokestatic 143, 3) := by decide +kernel
theorem dX8_least_9 : decode cX8_least 9 = .ok (.bipush 10, 2) := by decide +kernel
theorem dX8_least_11 : decode cX8_least 11 = .ok (.if_icmp .le 6, 3) := by decide +kernel
theorem dX8_least_14 : decode cX8_least 14 = .ok (.bipush (-2), 2) := by decide +kernel
theorem dX8_least_16 : decode cX8_least 16 = .ok (.ireturn, 1) := by decide +kernel
theorem dX8_least_17 : decode cX8_least 17 = .ok (.bipush (-4), 2) := by decide +kernel
theorem dX8_least_19 : decode cX8_least 19 = .ok (.istore_n 2, 1) := by decide +kernel
theorem dX8_least_20 : decode cX8_least 20 = .ok (.iconst 0, 1) := by decide +kernel
theorem dX8_least_21 : decode cX8_least 21 = .ok (.istore_n 3, 1) := by decide +kernel
theorem dX8_least_22 : decode cX8_least 22 = .ok (.iload_n 3, 1) := by decide +kernel
theorem dX8_least_23 : decode cX8_least 23 = .ok (.iload_n 1, 1) := by decide +kernel
theorem dX8_least_24 : decode cX8_least 24 = .ok (.if_icmp .gt 44, 3) := by decide +kernel
theorem dX8_least_27 : decode cX8_least 27 = .ok (.iload_n 3, 1) := by decide +kernel
theorem dX8_least_28 : decode cX8_least 28 = .ok (.iload_n 1, 1) := by decide +kernel
theorem dX8_least_29 : decode cX8_least 29 = .ok (.iconst (-1), 1) := by decide +kernel
theorem dX8_least_30 : decode cX8_least 30 = .ok (.ixor, 1) := by decide +kernel
theorem dX8_least_31 : decode cX8_least 31 = .ok (.iand, 1) := by decide +kernel
theorem dX8_least_32 : decode cX8_least 32 = .ok (.ifCond .ne 30, 3) := by decide +kernel
theorem dX8_least_35 : decode cX8_least 35 = .ok (.iload_n 2, 1) := by decide +kernel
theorem dX8_least_36 : decode cX8_least 36 = .ok (.bipush (-4), 2) := by decide +kernel
theorem dX8_least_38 : decode cX8_least 38 = .ok (.if_icmp .eq 14, 3) := by decide +kernel
theorem dX8_least_41 : decode cX8_least 41 = .ok (.iload_n 3, 1) := by decide +kernel
theorem dX8_least_42 : decode cX8_least 42 = .ok (.invokestatic 143, 3) := by decide +kernel
theorem dX8_least_45 : decode cX8_least 45 = .ok (.iload_n 2, 1) := by decide +kernel
theorem dX8_least_46 : decode cX8_least 46 = .ok (.invokestatic 143, 3) := by decide +kernel
theorem dX8_least_49 : decode cX8_least 49 = .ok (.if_icmp .ge 13, 3) := by decide +kernel
theorem dX8_least_52 : decode cX8_least 52 = .ok (.aload_n 0, 1) := by decide +kernel
theorem dX8_least_53 : decode cX8_least 53 = .ok (.iload_n 3, 1) := by decide +kernel
theorem dX8_least_54 : decode cX8_least 54 = .ok (.invokevirtual 146, 3) := by decide +kernel
theorem dX8_least_57 : decode cX8_least 57 = .ok (.ifCond .eq 5, 3) := by decide +kernel
theorem dX8_least_60 : decode cX8_least 60 = .ok (.iload_n 3, 1) := by decide +kernel
theorem dX8_least_61 : decode cX8_least 61 = .ok (.istore_n 2, 1) := by decide +kernel
theorem dX8_least_62 : decode cX8_least 62 = .ok (.iinc 3 1, 3) := by decide +kernel
theorem dX8_least_65 : decode cX8_least 65 = .ok (.goto (-43), 3) := by decide +kernel
theorem dX8_least_68 : decode cX8_least 68 = .ok (.iload_n 2, 1) := by decide +kernel
theorem dX8_least_69 : decode cX8_least 69 = .ok (.ireturn, 1) := by decide +kernel
theorem dX8_drive_0 : decode cX8_drive 0 = .ok (.aload_n 0, 1) := by decide +kernel
theorem dX8_drive_1 : decode cX8_drive 1 = .ok (.iload_n 1, 1) := by decide +kernel
theorem dX8_drive_2 : decode cX8_drive 2 = .ok (.invokevirtual 82, 3) := by decide +kernel
theorem dX8_drive_5 : decode cX8_drive 5 = .ok (.ifCond .eq 25, 3) := by decide +kernel
theorem dX8_drive_8 : decode cX8_drive 8 = .ok (.iload_n 2, 1) := by decide +kernel
theorem dX8_drive_9 : decode cX8_drive 9 = .ok (.iconst 1, 1) := by decide +kernel
theorem dX8_drive_10 : decode cX8_drive 10 = .ok (.sipush 10000, 3) := by decide +kernel
theorem dX8_drive_13 : decode cX8_drive 13 = .ok (.invokestatic 54, 3) := by decide +kernel
theorem dX8_drive_16 : decode cX8_drive 16 = .ok (.ifCond .eq 14, 3) := by decide +kernel
theorem dX8_drive_19 : decode cX8_drive 19 = .ok (.iload_n 3, 1) := by decide +kernel
theorem dX8_drive_20 : decode cX8_drive 20 = .ok (.iconst 1, 1) := by decide +kernel
theorem dX8_drive_21 : decode cX8_drive 21 = .ok (.sipush 200, 3) := by decide +kernel
theorem dX8_drive_24 : decode cX8_drive 24 = .ok (.invokestatic 54, 3) := by decide +kernel
theorem dX8_drive_27 : decode cX8_drive 27 = .ok (.ifCond .ne 5, 3) := by decide +kernel
theorem dX8_drive_30 : decode cX8_drive 30 = .ok (.iconst (-1), 1) := by decide +kernel
theorem dX8_drive_31 : decode cX8_drive 31 = .ok (.ireturn, 1) := by decide +kernel
theorem dX8_drive_32 : decode cX8_drive 32 = .ok (.iconst 0, 1) := by decide +kernel
theorem dX8_drive_33 : decode cX8_drive 33 = .ok (.istore 4, 2) := by decide +kernel
theorem dX8_drive_35 : decode cX8_drive 35 = .ok (.iconst 0, 1) := by decide +kernel
theorem dX8_drive_36 : decode cX8_drive 36 = .ok (.istore 5, 2) := by decide +kernel
theorem dX8_drive_38 : decode cX8_drive 38 = .ok (.iconst 0, 1) := by decide +kernel
theorem dX8_drive_39 : decode cX8_drive 39 = .ok (.istore 6, 2) := by decide +kernel
theorem dX8_drive_41 : decode cX8_drive 41 = .ok (.lconst 0, 1) := by decide +kernel
theorem dX8_drive_42 : decode cX8_drive 42 = .ok (.lstore 7, 2) := by decide +kernel
theorem dX8_drive_44 : decode cX8_drive 44 = .ok (.iconst 0, 1) := by decide +kernel
theorem dX8_drive_45 : decode cX8_drive 45 = .ok (.istore 9, 2) := by decide +kernel
theorem dX8_drive_47 : decode cX8_drive 47 = .ok (.iconst 1, 1) := by decide +kernel
theorem dX8_drive_48 : decode cX8_drive 48 = .ok (.istore 10, 2) := by decide +kernel
theorem dX8_drive_50 : decode cX8_drive 50 = .ok (.iload 10, 2) := by decide +kernel
theorem dX8_drive_52 : decode cX8_drive 52 = .ok (.ifCond .eq 124, 3) := by decide +kernel
theorem dX8_drive_55 : decode cX8_drive 55 = .ok (.iload 9, 2) := by decide +kernel
theorem dX8_drive_57 : decode cX8_drive 57 = .ok (.aload_n 0, 1) := by decide +kernel
theorem dX8_drive_58 : decode cX8_drive 58 = .ok (.getfield 25, 3) := by decide +kernel
theorem dX8_drive_61 : decode cX8_drive 61 = .ok (.iload_n 1, 1) := by decide +kernel
theorem dX8_drive_62 : decode cX8_drive 62 = .ok (.iaload, 1) := by decide +kernel
theorem dX8_drive_63 : decode cX8_drive 63 = .ok (.if_icmp .ge 113, 3) := by decide +kernel
theorem dX8_drive_66 : decode cX8_drive 66 = .ok (.aload_n 0, 1) := by decide +kernel
theorem dX8_drive_67 : decode cX8_drive 67 = .ok (.iload 9, 2) := by decide +kernel
theorem dX8_drive_69 : decode cX8_drive 69 = .ok (.iconst 1, 1) := by decide +kernel
theorem dX8_drive_70 : decode cX8_drive 70 = .ok (.iadd, 1) := by decide +kernel
theorem dX8_drive_71 : decode cX8_drive 71 = .ok (.invokevirtual 86, 3) := by decide +kernel
theorem dX8_drive_74 : decode cX8_drive 74 = .ok (.aload_n 0, 1) := by decide +kernel
theorem dX8_drive_75 : decode cX8_drive 75 = .ok (.iload 9, 2) := by decide +kernel
theorem dX8_drive_77 : decode cX8_drive 77 = .ok (.iconst 1, 1) := by decide +kernel
theorem dX8_drive_78 : decode cX8_drive 78 = .ok (.iadd, 1) := by decide +kernel
theorem dX8_drive_79 : decode cX8_drive 79 = .ok (.invokevirtual 89, 3) := by decide +kernel
theorem dX8_drive_82 : decode cX8_drive 82 = .ok (.iadd, 1) := by decide +kernel
theorem dX8_drive_83 : decode cX8_drive 83 = .ok (.istore 11, 2) := by decide +kernel
theorem dX8_drive_85 : decode cX8_drive 85 = .ok (.iconst 0, 1) := by decide +kernel
theorem dX8_drive_86 : decode cX8_drive 86 = .ok (.istore 12, 2) := by decide +kernel
theorem dX8_drive_88 : decode cX8_drive 88 = .ok (.iload 5, 2) := by decide +kernel
theorem dX8_drive_90 : decode cX8_drive 90 = .ok (.iload 11, 2) := by decide +kernel
theorem dX8_drive_92 : decode cX8_drive 92 = .ok (.if_icmp .ge 21, 3) := by decide +kernel
theorem dX8_drive_95 : decode cX8_drive 95 = .ok (.iload 12, 2) := by decide +kernel
theorem dX8_drive_97 : decode cX8_drive 97 = .ok (.iload_n 3, 1) := by decide +kernel
theorem dX8_drive_98 : decode cX8_drive 98 = .ok (.if_icmp .ge 15, 3) := by decide +kernel
theorem dX8_drive_101 : decode cX8_drive 101 = .ok (.iload 5, 2) := by decide +kernel
theorem dX8_drive_103 : decode cX8_drive 103 = .ok (.iload_n 2, 1) := by decide +kernel
theorem dX8_drive_104 : decode cX8_drive 104 = .ok (.iadd, 1) := by decide +kernel
theorem dX8_drive_105 : decode cX8_drive 105 = .ok (.istore 5, 2) := by decide +kernel
theorem dX8_drive_107 : decode cX8_drive 107 = .ok (.iinc 12 1, 3) := by decide +kernel
theorem dX8_drive_110 : decode cX8_drive 110 = .ok (.goto (-22), 3) := by decide +kernel
theorem dX8_drive_113 : decode cX8_drive 113 = .ok (.iload 4, 2) := by decide +kernel
theorem dX8_drive_115 : decode cX8_drive 115 = .ok (.iload 12, 2) := by decide +kernel
theorem dX8_drive_117 : decode cX8_drive 117 = .ok (.iadd, 1) := by decide +kernel
theorem dX8_drive_118 : decode cX8_drive 118 = .ok (.istore 4, 2) := by decide +kernel
theorem dX8_drive_120 : decode cX8_drive 120 = .ok (.iload 12, 2) := by decide +kernel
theorem dX8_drive_122 : decode cX8_drive 122 = .ok (.iload 6, 2) := by decide +kernel
theorem dX8_drive_124 : decode cX8_drive 124 = .ok (.if_icmp .le 8, 3) := by decide +kernel
theorem dX8_drive_127 : decode cX8_drive 127 = .ok (.iload 12, 2) := by decide +kernel
theorem dX8_drive_129 : decode cX8_drive 129 = .ok (.goto 5, 3) := by decide +kernel
theorem dX8_drive_132 : decode cX8_drive 132 = .ok (.iload 6, 2) := by decide +kernel
theorem dX8_drive_134 : decode cX8_drive 134 = .ok (.istore 6, 2) := by decide +kernel
theorem dX8_drive_136 : decode cX8_drive 136 = .ok (.iload 5, 2) := by decide +kernel
theorem dX8_drive_138 : decode cX8_drive 138 = .ok (.iload 11, 2) := by decide +kernel
theorem dX8_drive_140 : decode cX8_drive 140 = .ok (.if_icmp .lt 7, 3) := by decide +kernel
theorem dX8_drive_143 : decode cX8_drive 143 = .ok (.iconst 1, 1) := by decide +kernel
theorem dX8_drive_144 : decode cX8_drive 144 = .ok (.goto 4, 3) := by decide +kernel
theorem dX8_drive_147 : decode cX8_drive 147 = .ok (.iconst 0, 1) := by decide +kernel
theorem dX8_drive_148 : decode cX8_drive 148 = .ok (.istore 10, 2) := by decide +kernel
theorem dX8_drive_150 : decode cX8_drive 150 = .ok (.iload 10, 2) := by decide +kernel
theorem dX8_drive_152 : decode cX8_drive 152 = .ok (.ifCond .eq 21, 3) := by decide +kernel
theorem dX8_drive_155 : decode cX8_drive 155 = .ok (.iload 5, 2) := by decide +kernel
theorem dX8_drive_157 : decode cX8_drive 157 = .ok (.iload 11, 2) := by decide +kernel
theorem dX8_drive_159 : decode cX8_drive 159 = .ok (.isub, 1) := by decide +kernel
theorem dX8_drive_160 : decode cX8_drive 160 = .ok (.istore 5, 2) := by decide +kernel
theorem dX8_drive_162 : decode cX8_drive 162 = .ok (.lload 7, 2) := by decide +kernel
theorem dX8_drive_164 : decode cX8_drive 164 = .ok (.iload 11, 2) := by decide +kernel
theorem dX8_drive_166 : decode cX8_drive 166 = .ok (.i2l, 1) := by decide +kernel
theorem dX8_drive_167 : decode cX8_drive 167 = .ok (.ladd, 1) := by decide +kernel
theorem dX8_drive_168 : decode cX8_drive 168 = .ok (.lstore 7, 2) := by decide +kernel
theorem dX8_drive_170 : decode cX8_drive 170 = .ok (.iinc 9 1, 3) := by decide +kernel
theorem dX8_drive_173 : decode cX8_drive 173 = .ok (.goto (-123), 3) := by decide +kernel
theorem dX8_drive_176 : decode cX8_drive 176 = .ok (.aload_n 0, 1) := by decide +kernel
theorem dX8_drive_177 : decode cX8_drive 177 = .ok (.iconst 0, 1) := by decide +kernel
theorem dX8_drive_178 : decode cX8_drive 178 = .ok (.iload 4, 2) := by decide +kernel
theorem dX8_drive_180 : decode cX8_drive 180 = .ok (.i2l, 1) := by decide +kernel
theorem dX8_drive_181 : decode cX8_drive 181 = .ok (.lconst 1, 1) := by decide +kernel
theorem dX8_drive_182 : decode cX8_drive 182 = .ok (.invokevirtual 122, 3) := by decide +kernel
theorem dX8_drive_185 : decode cX8_drive 185 = .ok (.aload_n 0, 1) := by decide +kernel
theorem dX8_drive_186 : decode cX8_drive 186 = .ok (.iconst 1, 1) := by decide +kernel
theorem dX8_drive_187 : decode cX8_drive 187 = .ok (.iload 5, 2) := by decide +kernel
theorem dX8_drive_189 : decode cX8_drive 189 = .ok (.i2l, 1) := by decide +kernel
theorem dX8_drive_190 : decode cX8_drive 190 = .ok (.lconst 1, 1) := by decide +kernel
theorem dX8_drive_191 : decode cX8_drive 191 = .ok (.invokevirtual 122, 3) := by decide +kernel
theorem dX8_drive_194 : decode cX8_drive 194 = .ok (.aload_n 0, 1) := by decide +kernel
theorem dX8_drive_195 : decode cX8_drive 195 = .ok (.iconst 2, 1) := by decide +kernel
theorem dX8_drive_196 : decode cX8_drive 196 = .ok (.iload 6, 2) := by decide +kernel
theorem dX8_drive_198 : decode cX8_drive 198 = .ok (.i2l, 1) := by decide +kernel
theorem dX8_drive_199 : decode cX8_drive 199 = .ok (.lconst 1, 1) := by decide +kernel
theorem dX8_drive_200 : decode cX8_drive 200 = .ok (.invokevirtual 122, 3) := by decide +kernel
theorem dX8_drive_203 : decode cX8_drive 203 = .ok (.aload_n 0, 1) := by decide +kernel
theorem dX8_drive_204 : decode cX8_drive 204 = .ok (.iconst 3, 1) := by decide +kernel
theorem dX8_drive_205 : decode cX8_drive 205 = .ok (.lload 7, 2) := by decide +kernel
theorem dX8_drive_207 : decode cX8_drive 207 = .ok (.lconst 1, 1) := by decide +kernel
theorem dX8_drive_208 : decode cX8_drive 208 = .ok (.invokevirtual 122, 3) := by decide +kernel
theorem dX8_drive_211 : decode cX8_drive 211 = .ok (.aload_n 0, 1) := by decide +kernel
theorem dX8_drive_212 : decode cX8_drive 212 = .ok (.iconst 4, 1) := by decide +kernel
theorem dX8_drive_213 : decode cX8_drive 213 = .ok (.putfield 130, 3) := by decide +kernel
theorem dX8_drive_216 : decode cX8_drive 216 = .ok (.iload 9, 2) := by decide +kernel
theorem dX8_drive_218 : decode cX8_drive 218 = .ok (.ireturn, 1) := by decide +kernel
theorem dX8_drag_0 : decode cX8_drag 0 = .ok (.aload_n 0, 1) := by decide +kernel
theorem dX8_drag_1 : decode cX8_drag 1 = .ok (.iload_n 1, 1) := by decide +kernel
theorem dX8_drag_2 : decode cX8_drag 2 = .ok (.invokevirtual 82, 3) := by decide +kernel
theorem dX8_drag_5 : decode cX8_drag 5 = .ok (.ifCond .eq 13, 3) := by decide +kernel
theorem dX8_drag_8 : decode cX8_drag 8 = .ok (.iload_n 2, 1) := by decide +kernel
theorem dX8_drag_9 : decode cX8_drag 9 = .ok (.iconst 0, 1) := by decide +kernel
theorem dX8_drag_10 : decode cX8_drag 10 = .ok (.ldc 149, 2) := by decide +kernel
theorem dX8_drag_12 : decode cX8_drag 12 = .ok (.invokestatic 54, 3) := by decide +kernel
theorem dX8_drag_15 : decode cX8_drag 15 = .ok (.ifCond .ne 5, 3) := by decide +kernel
theorem dX8_drag_18 : decode cX8_drag 18 = .ok (.iconst (-1), 1) := by decide +kernel
theorem dX8_drag_19 : decode cX8_drag 19 = .ok (.ireturn, 1) := by decide +kernel
theorem dX8_drag_20 : decode cX8_drag 20 = .ok (.aload_n 0, 1) := by decide +kernel
theorem dX8_drag_21 : decode cX8_drag 21 = .ok (.getfield 25, 3) := by decide +kernel
theorem dX8_drag_24 : decode cX8_drag 24 = .ok (.iload_n 1, 1) := by decide +kernel
theorem dX8_drag_25 : decode cX8_drag 25 = .ok (.iaload, 1) := by decide +kernel
theorem dX8_drag_26 : decode cX8_drag 26 = .ok (.istore_n 3, 1) := by decide +kernel
theorem dX8_drag_27 : decode cX8_drag 27 = .ok (.aload_n 0, 1) := by decide +kernel
theorem dX8_drag_28 : decode cX8_drag 28 = .ok (.iload_n 3, 1) := by decide +kernel
theorem dX8_drag_29 : decode cX8_drag 29 = .ok (.invokevirtual 86, 3) := by decide +kernel
theorem dX8_drag_32 : decode cX8_drag 32 = .ok (.istore 4, 2) := by decide +kernel
theorem dX8_drag_34 : decode cX8_drag 34 = .ok (.aload_n 0, 1) := by decide +kernel
theorem dX8_drag_35 : decode cX8_drag 35 = .ok (.iload_n 3, 1) := by decide +kernel
theorem dX8_drag_36 : decode cX8_drag 36 = .ok (.invokevirtual 89, 3) := by decide +kernel
theorem dX8_drag_39 : decode cX8_drag 39 = .ok (.istore 5, 2) := by decide +kernel
theorem dX8_drag_41 : decode cX8_drag 41 = .ok (.iload_n 2, 1) := by decide +kernel
theorem dX8_drag_42 : decode cX8_drag 42 = .ok (.iload 4, 2) := by decide +kernel
theorem dX8_drag_44 : decode cX8_drag 44 = .ok (.iload 5, 2) := by decide +kernel
theorem dX8_drag_46 : decode cX8_drag 46 = .ok (.iadd, 1) := by decide +kernel
theorem dX8_drag_47 : decode cX8_drag 47 = .ok (.if_icmp .le 6, 3) := by decide +kernel
theorem dX8_drag_50 : decode cX8_drag 50 = .ok (.bipush (-4), 2) := by decide +kernel
theorem dX8_drag_52 : decode cX8_drag 52 = .ok (.ireturn, 1) := by decide +kernel
theorem dX8_drag_53 : decode cX8_drag 53 = .ok (.iload 4, 2) := by decide +kernel
theorem dX8_drag_55 : decode cX8_drag 55 = .ok (.iload 5, 2) := by decide +kernel
theorem dX8_drag_57 : decode cX8_drag 57 = .ok (.iadd, 1) := by decide +kernel
theorem dX8_drag_58 : decode cX8_drag 58 = .ok (.iload_n 2, 1) := by decide +kernel
theorem dX8_drag_59 : decode cX8_drag 59 = .ok (.isub, 1) := by decide +kernel
theorem dX8_drag_60 : decode cX8_drag 60 = .ok (.istore 6, 2) := by decide +kernel
theorem dX8_drag_62 : decode cX8_drag 62 = .ok (.aload_n 0, 1) := by decide +kernel
theorem dX8_drag_63 : decode cX8_drag 63 = .ok (.iconst 2, 1) := by decide +kernel
theorem dX8_drag_64 : decode cX8_drag 64 = .ok (.putfield 130, 3) := by decide +kernel
theorem dX8_drag_67 : decode cX8_drag 67 = .ok (.iload 6, 2) := by decide +kernel
theorem dX8_drag_69 : decode cX8_drag 69 = .ok (.iconst 2, 1) := by decide +kernel
theorem dX8_drag_70 : decode cX8_drag 70 = .ok (.iload 4, 2) := by decide +kernel
theorem dX8_drag_72 : decode cX8_drag 72 = .ok (.imul, 1) := by decide +kernel
theorem dX8_drag_73 : decode cX8_drag 73 = .ok (.if_icmp .le 24, 3) := by decide +kernel
theorem dX8_drag_76 : decode cX8_drag 76 = .ok (.aload_n 0, 1) := by decide +kernel
theorem dX8_drag_77 : decode cX8_drag 77 = .ok (.iconst 0, 1) := by decide +kernel
theorem dX8_drag_78 : decode cX8_drag 78 = .ok (.iload_n 3, 1) := by decide +kernel
theorem dX8_drag_79 : decode cX8_drag 79 = .ok (.i2l, 1) := by decide +kernel
theorem dX8_drag_80 : decode cX8_drag 80 = .ok (.lconst 1, 1) := by decide +kernel
theorem dX8_drag_81 : decode cX8_drag 81 = .ok (.invokevirtual 122, 3) := by decide +kernel
theorem dX8_drag_84 : decode cX8_drag 84 = .ok (.aload_n 0, 1) := by decide +kernel
theorem dX8_drag_85 : decode cX8_drag 85 = .ok (.iconst 1, 1) := by decide +kernel
theorem dX8_drag_86 : decode cX8_drag 86 = .ok (.iload_n 2, 1) := by decide +kernel
theorem dX8_drag_87 : decode cX8_drag 87 = .ok (.iload 4, 2) := by decide +kernel
theorem dX8_drag_89 : decode cX8_drag 89 = .ok (.iadd, 1) := by decide +kernel
theorem dX8_drag_90 : decode cX8_drag 90 = .ok (.i2l, 1) := by decide +kernel
theorem dX8_drag_91 : decode cX8_drag 91 = .ok (.lconst 1, 1) := by decide +kernel
theorem dX8_drag_92 : decode cX8_drag 92 = .ok (.invokevirtual 122, 3) := by decide +kernel
theorem dX8_drag_95 : decode cX8_drag 95 = .ok (.iconst 0, 1) := by decide +kernel
theorem dX8_drag_96 : decode cX8_drag 96 = .ok (.ireturn, 1) := by decide +kernel
theorem dX8_drag_97 : decode cX8_drag 97 = .ok (.iconst 0, 1) := by decide +kernel
theorem dX8_drag_98 : decode cX8_drag 98 = .ok (.istore 7, 2) := by decide +kernel
theorem dX8_drag_100 : decode cX8_drag 100 = .ok (.iconst 0, 1) := by decide +kernel
theorem dX8_drag_101 : decode cX8_drag 101 = .ok (.istore 8, 2) := by decide +kernel
theorem dX8_drag_103 : decode cX8_drag 103 = .ok (.iconst 2, 1) := by decide +kernel
theorem dX8_drag_104 : decode cX8_drag 104 = .ok (.iload 7, 2) := by decide +kernel
theorem dX8_drag_106 : decode cX8_drag 106 = .ok (.aload_n 0, 1) := by decide +kernel
theorem dX8_drag_107 : decode cX8_drag 107 = .ok (.iload 8, 2) := by decide +kernel
theorem dX8_drag_109 : decode cX8_drag 109 = .ok (.invokevirtual 72, 3) := by decide +kernel
theorem dX8_drag_112 : decode cX8_drag 112 = .ok (.iadd, 1) := by decide +kernel
theorem dX8_drag_113 : decode cX8_drag 113 = .ok (.imul, 1) := by decide +kernel
theorem dX8_drag_114 : decode cX8_drag 114 = .ok (.iload 6, 2) := by decide +kernel
theorem dX8_drag_116 : decode cX8_drag 116 = .ok (.if_icmp .ge 20, 3) := by decide +kernel
theorem dX8_drag_119 : decode cX8_drag 119 = .ok (.iload 7, 2) := by decide +kernel
theorem dX8_drag_121 : decode cX8_drag 121 = .ok (.aload_n 0, 1) := by decide +kernel
theorem dX8_drag_122 : decode cX8_drag 122 = .ok (.iload 8, 2) := by decide +kernel
theorem dX8_drag_124 : decode cX8_drag 124 = .ok (.invokevirtual 72, 3) := by decide +kernel
theorem dX8_drag_127 : decode cX8_drag 127 = .ok (.iadd, 1) := by decide +kernel
theorem dX8_drag_128 : decode cX8_drag 128 = .ok (.istore 7, 2) := by decide +kernel
theorem dX8_drag_130 : decode cX8_drag 130 = .ok (.iinc 8 1, 3) := by decide +kernel
theorem dX8_drag_133 : decode cX8_drag 133 = .ok (.goto (-30), 3) := by decide +kernel
theorem dX8_drag_136 : decode cX8_drag 136 = .ok (.aload_n 0, 1) := by decide +kernel
theorem dX8_drag_137 : decode cX8_drag 137 = .ok (.iload 8, 2) := by decide +kernel
theorem dX8_drag_139 : decode cX8_drag 139 = .ok (.invokevirtual 72, 3) := by decide +kernel
theorem dX8_drag_142 : decode cX8_drag 142 = .ok (.istore 9, 2) := by decide +kernel
theorem dX8_drag_144 : decode cX8_drag 144 = .ok (.iload 6, 2) := by decide +kernel
theorem dX8_drag_146 : decode cX8_drag 146 = .ok (.iconst 2, 1) := by decide +kernel
theorem dX8_drag_147 : decode cX8_drag 147 = .ok (.iload 7, 2) := by decide +kernel
theorem dX8_drag_149 : decode cX8_drag 149 = .ok (.imul, 1) := by decide +kernel
theorem dX8_drag_150 : decode cX8_drag 150 = .ok (.if_icmp .ne 41, 3) := by decide +kernel
theorem dX8_drag_153 : decode cX8_drag 153 = .ok (.iload 8, 2) := by decide +kernel
theorem dX8_drag_155 : decode cX8_drag 155 = .ok (.istore 10, 2) := by decide +kernel
theorem dX8_drag_157 : decode cX8_drag 157 = .ok (.iload 10, 2) := by decide +kernel
theorem dX8_drag_159 : decode cX8_drag 159 = .ok (.ifCond .le 20, 3) := by decide +kernel
theorem dX8_drag_162 : decode cX8_drag 162 = .ok (.aload_n 0, 1) := by decide +kernel
theorem dX8_drag_163 : decode cX8_drag 163 = .ok (.iload 10, 2) := by decide +kernel
theorem dX8_drag_165 : decode cX8_drag 165 = .ok (.iconst 1, 1) := by decide +kernel
theorem dX8_drag_166 : decode cX8_drag 166 = .ok (.isub, 1) := by decide +kernel
theorem dX8_drag_167 : decode cX8_drag 167 = .ok (.invokevirtual 72, 3) := by decide +kernel
theorem dX8_drag_170 : decode cX8_drag 170 = .ok (.ifCond .ne 9, 3) := by decide +kernel
theorem dX8_drag_173 : decode cX8_drag 173 = .ok (.iinc 10 (-1), 3) := by decide +kernel
theorem dX8_drag_176 : decode cX8_drag 176 = .ok (.goto (-19), 3) := by decide +kernel
theorem dX8_drag_179 : decode cX8_drag 179 = .ok (.aload_n 0, 1) := by decide +kernel
theorem dX8_drag_180 : decode cX8_drag 180 = .ok (.iconst 0, 1) := by decide +kernel
theorem dX8_drag_181 : decode cX8_drag 181 = .ok (.iload 10, 2) := by decide +kernel
theorem dX8_drag_183 : decode cX8_drag 183 = .ok (.i2l, 1) := by decide +kernel
theorem dX8_drag_184 : decode cX8_drag 184 = .ok (.lconst 1, 1) := by decide +kernel
theorem dX8_drag_185 : decode cX8_drag 185 = .ok (.invokevirtual 122, 3) := by decide +kernel
theorem dX8_drag_188 : decode cX8_drag 188 = .ok (.goto 38, 3) := by decide +kernel
theorem dX8_drag_191 : decode cX8_drag 191 = .ok (.aload_n 0, 1) := by decide +kernel
theorem dX8_drag_192 : decode cX8_drag 192 = .ok (.iconst 0, 1) := by decide +kernel
theorem dX8_drag_193 : decode cX8_drag 193 = .ok (.ldc2_w 150, 3) := by decide +kernel
theorem dX8_drag_196 : decode cX8_drag 196 = .ok (.iload 8, 2) := by decide +kernel
theorem dX8_drag_198 : decode cX8_drag 198 = .ok (.i2l, 1) := by decide +kernel
theorem dX8_drag_199 : decode cX8_drag 199 = .ok (.lmul, 1) := by decide +kernel
theorem dX8_drag_200 : decode cX8_drag 200 = .ok (.iload 9, 2) := by decide +kernel
theorem dX8_drag_202 : decode cX8_drag 202 = .ok (.i2l, 1) := by decide +kernel
theorem dX8_drag_203 : decode cX8_drag 203 = .ok (.lmul, 1) := by decide +kernel
theorem dX8_drag_204 : decode cX8_drag 204 = .ok (.iload 6, 2) := by decide +kernel
theorem dX8_drag_206 : decode cX8_drag 206 = .ok (.i2l, 1) := by decide +kernel
theorem dX8_drag_207 : decode cX8_drag 207 = .ok (.ladd, 1) := by decide +kernel
theorem dX8_drag_208 : decode cX8_drag 208 = .ok (.ldc2_w 150, 3) := by decide +kernel
theorem dX8_drag_211 : decode cX8_drag 211 = .ok (.iload 7, 2) := by decide +kernel
theorem dX8_drag_213 : decode cX8_drag 213 = .ok (.i2l, 1) := by decide +kernel
theorem dX8_drag_214 : decode cX8_drag 214 = .ok (.lmul, 1) := by decide +kernel
theorem dX8_drag_215 : decode cX8_drag 215 = .ok (.lsub, 1) := by decide +kernel
theorem dX8_drag_216 : decode cX8_drag 216 = .ok (.ldc2_w 150, 3) := by decide +kernel
theorem dX8_drag_219 : decode cX8_drag 219 = .ok (.iload 9, 2) := by decide +kernel
theorem dX8_drag_221 : decode cX8_drag 221 = .ok (.i2l, 1) := by decide +kernel
theorem dX8_drag_222 : decode cX8_drag 222 = .ok (.lmul, 1) := by decide +kernel
theorem dX8_drag_223 : decode cX8_drag 223 = .ok (.invokevirtual 122, 3) := by decide +kernel
theorem dX8_drag_226 : decode cX8_drag 226 = .ok (.aload_n 0, 1) := by decide +kernel
theorem dX8_drag_227 : decode cX8_drag 227 = .ok (.iconst 1, 1) := by decide +kernel
theorem dX8_drag_228 : decode cX8_drag 228 = .ok (.ldc2_w 150, 3) := by decide +kernel
theorem dX8_drag_231 : decode cX8_drag 231 = .ok (.iload_n 2, 1) := by decide +kernel
theorem dX8_drag_232 : decode cX8_drag 232 = .ok (.i2l, 1) := by decide +kernel
theorem dX8_drag_233 : decode cX8_drag 233 = .ok (.lmul, 1) := by decide +kernel
theorem dX8_drag_234 : decode cX8_drag 234 = .ok (.iload 6, 2) := by decide +kernel
theorem dX8_drag_236 : decode cX8_drag 236 = .ok (.i2l, 1) := by decide +kernel
theorem dX8_drag_237 : decode cX8_drag 237 = .ok (.ladd, 1) := by decide +kernel
theorem dX8_drag_238 : decode cX8_drag 238 = .ok (.ldc2_w 150, 3) := by decide +kernel
theorem dX8_drag_241 : decode cX8_drag 241 = .ok (.invokevirtual 122, 3) := by decide +kernel
theorem dX8_drag_244 : decode cX8_drag 244 = .ok (.iconst 0, 1) := by decide +kernel
theorem dX8_drag_245 : decode cX8_drag 245 = .ok (.ireturn, 1) := by decide +kernel
theorem dX8_number_0 : decode cX8_number 0 = .ok (.iload_n 1, 1) := by decide +kernel
theorem dX8_number_1 : decode cX8_number 1 = .ok (.ifCond .lt 12, 3) := by decide +kernel
theorem dX8_number_4 : decode cX8_number 4 = .ok (.iload_n 2, 1) := by decide +kernel
theorem dX8_number_5 : decode cX8_number 5 = .ok (.iconst 0, 1) := by decide +kernel
theorem dX8_number_6 : decode cX8_number 6 = .ok (.iconst 1, 1) := by decide +kernel
theorem dX8_number_7 : decode cX8_number 7 = .ok (.invokestatic 54, 3) := by decide +kernel
theorem dX8_number_10 : decode cX8_number 10 = .ok (.ifCond .ne 7, 3) := by decide +kernel
theorem dX8_number_13 : decode cX8_number 13 = .ok (.ldc2_w 152, 3) := by decide +kernel
theorem dX8_number_16 : decode cX8_number 16 = .ok (.lreturn, 1) := by decide +kernel
theorem dX8_number_17 : decode cX8_number 17 = .ok (.iload_n 1, 1) := by decide +kernel
theorem dX8_number_18 : decode cX8_number 18 = .ok (.aload_n 0, 1) := by decide +kernel
theorem dX8_number_19 : decode cX8_number 19 = .ok (.getfield 130, 3) := by decide +kernel
theorem dX8_number_22 : decode cX8_number 22 = .ok (.if_icmp .lt 9, 3) := by decide +kernel
theorem dX8_number_25 : decode cX8_number 25 = .ok (.ldc2_w 154, 3) := by decide +kernel
theorem dX8_number_28 : decode cX8_number 28 = .ok (.goto 22, 3) := by decide +kernel
theorem dX8_number_31 : decode cX8_number 31 = .ok (.iload_n 2, 1) := by decide +kernel
theorem dX8_number_32 : decode cX8_number 32 = .ok (.ifCond .ne 12, 3) := by decide +kernel
theorem dX8_number_35 : decode cX8_number 35 = .ok (.aload_n 0, 1) := by decide +kernel
theorem dX8_number_36 : decode cX8_number 36 = .ok (.getfield 47, 3) := by decide +kernel
theorem dX8_number_39 : decode cX8_number 39 = .ok (.iload_n 1, 1) := by decide +kernel
theorem dX8_number_40 : decode cX8_number 40 = .ok (.laload, 1) := by decide +kernel
theorem dX8_number_41 : decode cX8_number 41 = .ok (.goto 9, 3) := by decide +kernel
theorem dX8_number_44 : decode cX8_number 44 = .ok (.aload_n 0, 1) := by decide +kernel
theorem dX8_number_45 : decode cX8_number 45 = .ok (.getfield 51, 3) := by decide +kernel
theorem dX8_number_48 : decode cX8_number 48 = .ok (.iload_n 1, 1) := by decide +kernel
theorem dX8_number_49 : decode cX8_number 49 = .ok (.laload, 1) := by decide +kernel
theorem dX8_number_50 : decode cX8_number 50 = .ok (.lreturn, 1) := by decide +kernel
theorem dX8_count_0 : decode cX8_count 0 = .ok (.iconst 0, 1) := by decide +kernel
theorem dX8_count_1 : decode cX8_count 1 = .ok (.istore_n 2, 1) := by decide +kernel
theorem dX8_count_2 : decode cX8_count 2 = .ok (.iconst 0, 1) := by decide +kernel
theorem dX8_count_3 : decode cX8_count 3 = .ok (.istore_n 3, 1) := by decide +kernel
theorem dX8_count_4 : decode cX8_count 4 = .ok (.iload_n 3, 1) := by decide +kernel
theorem dX8_count_5 : decode cX8_count 5 = .ok (.aload_n 0, 1) := by decide +kernel
theorem dX8_count_6 : decode cX8_count 6 = .ok (.getfield 75, 3) := by decide +kernel
theorem dX8_count_9 : decode cX8_count 9 = .ok (.if_icmp .ge 26, 3) := by decide +kernel
theorem dX8_count_12 : decode cX8_count 12 = .ok (.iload_n 2, 1) := by decide +kernel
theorem dX8_count_13 : decode cX8_count 13 = .ok (.aload_n 0, 1) := by decide +kernel
theorem dX8_count_14 : decode cX8_count 14 = .ok (.getfield 31, 3) := by decide +kernel
theorem dX8_count_17 : decode cX8_count 17 = .ok (.iload_n 3, 1) := by decide +kernel
theorem dX8_count_18 : decode cX8_count 18 = .ok (.baload, 1) := by decide +kernel
theorem dX8_count_19 : decode cX8_count 19 = .ok (.ifCond .eq 7, 3) := by decide +kernel
theorem dX8_count_22 : decode cX8_count 22 = .ok (.iconst 1, 1) := by decide +kernel
theorem dX8_count_23 : decode cX8_count 23 = .ok (.goto 4, 3) := by decide +kernel
theorem dX8_count_26 : decode cX8_count 26 = .ok (.iconst 0, 1) := by decide +kernel
theorem dX8_count_27 : decode cX8_count 27 = .ok (.iadd, 1) := by decide +kernel
theorem dX8_count_28 : decode cX8_count 28 = .ok (.istore_n 2, 1) := by decide +kernel
theorem dX8_count_29 : decode cX8_count 29 = .ok (.iinc 3 1, 3) := by decide +kernel
theorem dX8_count_32 : decode cX8_count 32 = .ok (.goto (-28), 3) := by decide +kernel
theorem dX8_count_35 : decode cX8_count 35 = .ok (.iload_n 1, 1) := by decide +kernel
theorem dX8_count_36 : decode cX8_count 36 = .ok (.ifCond .ne 10, 3) := by decide +kernel
theorem dX8_count_39 : decode cX8_count 39 = .ok (.aload_n 0, 1) := by decide +kernel
theorem dX8_count_40 : decode cX8_count 40 = .ok (.getfield 58, 3) := by decide +kernel
theorem dX8_count_43 : decode cX8_count 43 = .ok (.goto 53, 3) := by decide +kernel
theorem dX8_count_46 : decode cX8_count 46 = .ok (.iload_n 1, 1) := by decide +kernel
theorem dX8_count_47 : decode cX8_count 47 = .ok (.iconst 1, 1) := by decide +kernel
theorem dX8_count_48 : decode cX8_count 48 = .ok (.if_icmp .ne 10, 3) := by decide +kernel
theorem dX8_count_51 : decode cX8_count 51 = .ok (.aload_n 0, 1) := by decide +kernel
theorem dX8_count_52 : decode cX8_count 52 = .ok (.getfield 75, 3) := by decide +kernel
theorem dX8_count_55 : decode cX8_count 55 = .ok (.goto 41, 3) := by decide +kernel
theorem dX8_count_58 : decode cX8_count 58 = .ok (.iload_n 1, 1) := by decide +kernel
theorem dX8_count_59 : decode cX8_count 59 = .ok (.iconst 2, 1) := by decide +kernel
theorem dX8_count_60 : decode cX8_count 60 = .ok (.if_icmp .ne 7, 3) := by decide +kernel
theorem dX8_count_63 : decode cX8_count 63 = .ok (.iload_n 2, 1) := by decide +kernel
theorem dX8_count_64 : decode cX8_count 64 = .ok (.goto 32, 3) := by decide +kernel
theorem dX8_count_67 : decode cX8_count 67 = .ok (.iload_n 1, 1) := by decide +kernel
theorem dX8_count_68 : decode cX8_count 68 = .ok (.iconst 3, 1) := by decide +kernel
theorem dX8_count_69 : decode cX8_count 69 = .ok (.if_icmp .ne 26, 3) := by decide +kernel
theorem dX8_count_72 : decode cX8_count 72 = .ok (.aload_n 0, 1) := by decide +kernel
theorem dX8_count_73 : decode cX8_count 73 = .ok (.getfield 35, 3) := by decide +kernel
theorem dX8_count_76 : decode cX8_count 76 = .ok (.iconst 0, 1) := by decide +kernel
theorem dX8_count_77 : decode cX8_count 77 = .ok (.iaload, 1) := by decide +kernel
theorem dX8_count_78 : decode cX8_count 78 = .ok (.aload_n 0, 1) := by decide +kernel
theorem dX8_count_79 : decode cX8_count 79 = .ok (.getfield 35, 3) := by decide +kernel
theorem dX8_count_82 : decode cX8_count 82 = .ok (.iconst 1, 1) := by decide +kernel
theorem dX8_count_83 : decode cX8_count 83 = .ok (.iaload, 1) := by decide +kernel
theorem dX8_count_84 : decode cX8_count 84 = .ok (.iadd, 1) := by decide +kernel
theorem dX8_count_85 : decode cX8_count 85 = .ok (.aload_n 0, 1) := by decide +kernel
theorem dX8_count_86 : decode cX8_count 86 = .ok (.getfield 35, 3) := by decide +kernel
theorem dX8_count_89 : decode cX8_count 89 = .ok (.iconst 2, 1) := by decide +kernel
theorem dX8_count_90 : decode cX8_count 90 = .ok (.iaload, 1) := by decide +kernel
theorem dX8_count_91 : decode cX8_count 91 = .ok (.iadd, 1) := by decide +kernel
theorem dX8_count_92 : decode cX8_count 92 = .ok (.goto 4, 3) := by decide +kernel
theorem dX8_count_95 : decode cX8_count 95 = .ok (.iconst (-1), 1) := by decide +kernel
theorem dX8_count_96 : decode cX8_count 96 = .ok (.ireturn, 1) := by decide +kernel
theorem dJ6_bitCount_0f7a4_0 : decode cJ6_bitCount_0f7a4 0 = .ok (.iload_n 0, 1) := by decide +kernel
theorem dJ6_bitCount_0f7a4_1 : decode cJ6_bitCount_0f7a4 1 = .ok (.iload_n 0, 1) := by decide +kernel
theorem dJ6_bitCount_0f7a4_2 : decode cJ6_bitCount_0f7a4 2 = .ok (.iconst 1, 1) := by decide +kernel
theorem dJ6_bitCount_0f7a4_3 : decode cJ6_bitCount_0f7a4 3 = .ok (.iushr, 1) := by decide +kernel
theorem dJ6_bitCount_0f7a4_4 : decode cJ6_bitCount_0f7a4 4 = .ok (.ldc_w 265, 3) := by decide +kernel
theorem dJ6_bitCount_0f7a4_7 : decode cJ6_bitCount_0f7a4 7 = .ok (.iand, 1) := by decide +kernel
theorem dJ6_bitCount_0f7a4_8 : decode cJ6_bitCount_0f7a4 8 = .ok (.isub, 1) := by decide +kernel
theorem dJ6_bitCount_0f7a4_9 : decode cJ6_bitCount_0f7a4 9 = .ok (.istore_n 0, 1) := by decide +kernel
theorem dJ6_bitCount_0f7a4_10 : decode cJ6_bitCount_0f7a4 10 = .ok (.iload_n 0, 1) := by decide +kernel
theorem dJ6_bitCount_0f7a4_11 : decode cJ6_bitCount_0f7a4 11 = .ok (.ldc_w 266, 3) := by decide +kernel
theorem dJ6_bitCount_0f7a4_14 : decode cJ6_bitCount_0f7a4 14 = .ok (.iand, 1) := by decide +kernel
theorem dJ6_bitCount_0f7a4_15 : decode cJ6_bitCount_0f7a4 15 = .ok (.iload_n 0, 1) := by decide +kernel
theorem dJ6_bitCount_0f7a4_16 : decode cJ6_bitCount_0f7a4 16 = .ok (.iconst 2, 1) := by decide +kernel
theorem dJ6_bitCount_0f7a4_17 : decode cJ6_bitCount_0f7a4 17 = .ok (.iushr, 1) := by decide +kernel
theorem dJ6_bitCount_0f7a4_18 : decode cJ6_bitCount_0f7a4 18 = .ok (.ldc_w 266, 3) := by decide +kernel
theorem dJ6_bitCount_0f7a4_21 : decode cJ6_bitCount_0f7a4 21 = .ok (.iand, 1) := by decide +kernel
theorem dJ6_bitCount_0f7a4_22 : decode cJ6_bitCount_0f7a4 22 = .ok (.iadd, 1) := by decide +kernel
theorem dJ6_bitCount_0f7a4_23 : decode cJ6_bitCount_0f7a4 23 = .ok (.istore_n 0, 1) := by decide +kernel
theorem dJ6_bitCount_0f7a4_24 : decode cJ6_bitCount_0f7a4 24 = .ok (.iload_n 0, 1) := by decide +kernel
theorem dJ6_bitCount_0f7a4_25 : decode cJ6_bitCount_0f7a4 25 = .ok (.iload_n 0, 1) := by decide +kernel
theorem dJ6_bitCount_0f7a4_26 : decode cJ6_bitCount_0f7a4 26 = .ok (.iconst 4, 1) := by decide +kernel
theorem dJ6_bitCount_0f7a4_27 : decode cJ6_bitCount_0f7a4 27 = .ok (.iushr, 1) := by decide +kernel
theorem dJ6_bitCount_0f7a4_28 : decode cJ6_bitCount_0f7a4 28 = .ok (.iadd, 1) := by decide +kernel
theorem dJ6_bitCount_0f7a4_29 : decode cJ6_bitCount_0f7a4 29 = .ok (.ldc_w 267, 3) := by decide +kernel
theorem dJ6_bitCount_0f7a4_32 : decode cJ6_bitCount_0f7a4 32 = .ok (.iand, 1) := by decide +kernel
theorem dJ6_bitCount_0f7a4_33 : decode cJ6_bitCount_0f7a4 33 = .ok (.istore_n 0, 1) := by decide +kernel
theorem dJ6_bitCount_0f7a4_34 : decode cJ6_bitCount_0f7a4 34 = .ok (.iload_n 0, 1) := by decide +kernel
theorem dJ6_bitCount_0f7a4_35 : decode cJ6_bitCount_0f7a4 35 = .ok (.iload_n 0, 1) := by decide +kernel
theorem dJ6_bitCount_0f7a4_36 : decode cJ6_bitCount_0f7a4 36 = .ok (.bipush 8, 2) := by decide +kernel
theorem dJ6_bitCount_0f7a4_38 : decode cJ6_bitCount_0f7a4 38 = .ok (.iushr, 1) := by decide +kernel
theorem dJ6_bitCount_0f7a4_39 : decode cJ6_bitCount_0f7a4 39 = .ok (.iadd, 1) := by decide +kernel
theorem dJ6_bitCount_0f7a4_40 : decode cJ6_bitCount_0f7a4 40 = .ok (.istore_n 0, 1) := by decide +kernel
theorem dJ6_bitCount_0f7a4_41 : decode cJ6_bitCount_0f7a4 41 = .ok (.iload_n 0, 1) := by decide +kernel
theorem dJ6_bitCount_0f7a4_42 : decode cJ6_bitCount_0f7a4 42 = .ok (.iload_n 0, 1) := by decide +kernel
theorem dJ6_bitCount_0f7a4_43 : decode cJ6_bitCount_0f7a4 43 = .ok (.bipush 16, 2) := by decide +kernel
theorem dJ6_bitCount_0f7a4_45 : decode cJ6_bitCount_0f7a4 45 = .ok (.iushr, 1) := by decide +kernel
theorem dJ6_bitCount_0f7a4_46 : decode cJ6_bitCount_0f7a4 46 = .ok (.iadd, 1) := by decide +kernel
theorem dJ6_bitCount_0f7a4_47 : decode cJ6_bitCount_0f7a4 47 = .ok (.istore_n 0, 1) := by decide +kernel
theorem dJ6_bitCount_0f7a4_48 : decode cJ6_bitCount_0f7a4 48 = .ok (.iload_n 0, 1) := by decide +kernel
theorem dJ6_bitCount_0f7a4_49 : decode cJ6_bitCount_0f7a4 49 = .ok (.bipush 63, 2) := by decide +kernel
theorem dJ6_bitCount_0f7a4_51 : decode cJ6_bitCount_0f7a4 51 = .ok (.iand, 1) := by decide +kernel
theorem dJ6_bitCount_0f7a4_52 : decode cJ6_bitCount_0f7a4 52 = .ok (.ireturn, 1) := by decide +kernel
theorem dJ13_compare_74951_0 : decode cJ13_compare_74951 0 = .ok (.lload_n 0, 1) := by decide +kernel
theorem dJ13_compare_74951_1 : decode cJ13_compare_74951 1 = .ok (.lload_n 2, 1) := by decide +kernel
theorem dJ13_compare_74951_2 : decode cJ13_compare_74951 2 = .ok (.lcmp, 1) := by decide +kernel
theorem dJ13_compare_74951_3 : decode cJ13_compare_74951 3 = .ok (.ifCond .ge 7, 3) := by decide +kernel
theorem dJ13_compare_74951_6 : decode cJ13_compare_74951 6 = .ok (.iconst (-1), 1) := by decide +kernel
theorem dJ13_compare_74951_7 : decode cJ13_compare_74951 7 = .ok (.goto 14, 3) := by decide +kernel
theorem dJ13_compare_74951_10 : decode cJ13_compare_74951 10 = .ok (.lload_n 0, 1) := by decide +kernel
theorem dJ13_compare_74951_11 : decode cJ13_compare_74951 11 = .ok (.lload_n 2, 1) := by decide +kernel
theorem dJ13_compare_74951_12 : decode cJ13_compare_74951 12 = .ok (.lcmp, 1) := by decide +kernel
theorem dJ13_compare_74951_13 : decode cJ13_compare_74951 13 = .ok (.ifCond .ne 7, 3) := by decide +kernel
theorem dJ13_compare_74951_16 : decode cJ13_compare_74951 16 = .ok (.iconst 0, 1) := by decide +kernel
theorem dJ13_compare_74951_17 : decode cJ13_compare_74951 17 = .ok (.goto 4, 3) := by decide +kernel
theorem dJ13_compare_74951_20 : decode cJ13_compare_74951 20 = .ok (.iconst 1, 1) := by decide +kernel
theorem dJ13_compare_74951_21 : decode cJ13_compare_74951 21 = .ok (.ireturn, 1) := by decide +kernel
theorem dJ9_abs_067f4_0 : decode cJ9_abs_067f4 0 = .ok (.lload_n 0, 1) := by decide +kernel
theorem dJ9_abs_067f4_1 : decode cJ9_abs_067f4 1 = .ok (.lconst 0, 1) := by decide +kernel
theorem dJ9_abs_067f4_2 : decode cJ9_abs_067f4 2 = .ok (.lcmp, 1) := by decide +kernel
theorem dJ9_abs_067f4_3 : decode cJ9_abs_067f4 3 = .ok (.ifCond .ge 8, 3) := by decide +kernel
theorem dJ9_abs_067f4_6 : decode cJ9_abs_067f4 6 = .ok (.lload_n 0, 1) := by decide +kernel
theorem dJ9_abs_067f4_7 : decode cJ9_abs_067f4 7 = .ok (.lneg, 1) := by decide +kernel
theorem dJ9_abs_067f4_8 : decode cJ9_abs_067f4 8 = .ok (.goto 4, 3) := by decide +kernel
theorem dJ9_abs_067f4_11 : decode cJ9_abs_067f4 11 = .ok (.lload_n 0, 1) := by decide +kernel
theorem dJ9_abs_067f4_12 : decode cJ9_abs_067f4 12 = .ok (.lreturn, 1) := by decide +kernel
theorem dJ9_max_7cf53_0 : decode cJ9_max_7cf53 0 = .ok (.iload_n 0, 1) := by decide +kernel
theorem dJ9_max_7cf53_1 : decode cJ9_max_7cf53 1 = .ok (.iload_n 1, 1) := by decide +kernel
theorem dJ9_max_7cf53_2 : decode cJ9_max_7cf53 2 = .ok (.if_icmp .lt 7, 3) := by decide +kernel
theorem dJ9_max_7cf53_5 : decode cJ9_max_7cf53 5 = .ok (.iload_n 0, 1) := by decide +kernel
theorem dJ9_max_7cf53_6 : decode cJ9_max_7cf53 6 = .ok (.goto 4, 3) := by decide +kernel
theorem dJ9_max_7cf53_9 : decode cJ9_max_7cf53 9 = .ok (.iload_n 1, 1) := by decide +kernel
theorem dJ9_max_7cf53_10 : decode cJ9_max_7cf53 10 = .ok (.ireturn, 1) := by decide +kernel
theorem dJ9_min_7cf53_0 : decode cJ9_min_7cf53 0 = .ok (.iload_n 0, 1) := by decide +kernel
theorem dJ9_min_7cf53_1 : decode cJ9_min_7cf53 1 = .ok (.iload_n 1, 1) := by decide +kernel
theorem dJ9_min_7cf53_2 : decode cJ9_min_7cf53 2 = .ok (.if_icmp .gt 7, 3) := by decide +kernel
theorem dJ9_min_7cf53_5 : decode cJ9_min_7cf53 5 = .ok (.iload_n 0, 1) := by decide +kernel
theorem dJ9_min_7cf53_6 : decode cJ9_min_7cf53 6 = .ok (.goto 4, 3) := by decide +kernel
theorem dJ9_min_7cf53_9 : decode cJ9_min_7cf53 9 = .ok (.iload_n 1, 1) := by decide +kernel
theorem dJ9_min_7cf53_10 : decode cJ9_min_7cf53 10 = .ok (.ireturn, 1) := by decide +kernel
end
section
/-! The judgement V: a method at a place of its code, its locals listed, its stack, its world; one contract form Ct for all methods; all over one word list. -/
def nestW : Cond → Bool
  | .fieldLinkNest _ _ _ _ _ _ => true
  | .methodLinkNest _ _ _ _ => true
  | _ => false
def ALL : List Cond := lw_tbl.filter goodWord
def NW (U : State) : Prop := ∀ w ∈ lw_tbl, nestW w = true → va_Nw w U
theorem NW.warm {s U : State} (hW : s.WarmedH U.vm) (h : NW s) : NW U := by
  intro w hw hn
  have h1 := h w hw hn
  cases w <;> first | exact va_Nw.warmF hW h1 | exact va_Nw.warmM hW h1 | (simp [nestW] at hn; done)
theorem NW.same {u U : State} (e : u.vm = U.vm) (h : NW u) : NW U := by
  intro w hw hn
  have h1 := h w hw hn
  cases w <;> first | exact va_Nw.same rfl e h1 | (simp [nestW] at hn; done)
theorem ALL_at {w : Cond} (i : Nat) (h : lw_tbl[i]? = some w) (hg : goodWord w = true) : w ∈ ALL := List.mem_filter.mpr ⟨List.mem_of_getElem? h, hg⟩
theorem NWL_at {w : Cond} (i : Nat) (h : lw_tbl[i]? = some w) : w ∈ lw_tbl := List.mem_of_getElem? h
theorem good_ALL {y : MethodName} {cc : ByteArray} {n : Nat} {ret : Option FieldType} (h : Cond.code y cc n ret ∈ ALL) : GoodIn ALL (.code y cc n ret :: ALL) := by
  intro w hw
  rcases List.mem_cons.mp hw with e | e
  · subst e
    exact ⟨h, good_of_word (List.mem_filter.mp h).2⟩
  · exact ⟨e, good_of_word (List.mem_filter.mp e).2⟩
/-- a call's cells put back at their places; what is new behind all -/
def wset : va_W → List Nat → va_W → va_W
  | ws, i :: is, x :: xs => wset (ws.set i x) is xs
  | ws, [], xs => ws ++ xs
  | ws, _ :: _, [] => ws
theorem wset_get : ∀ (is : List Nat) (ws xs : va_W), is.Nodup → is.length ≤ xs.length → ∀ (k : Nat) (q : Nat × va_E), (wset ws is xs)[k]? = some q → (∃ j : Nat, is[j]? = some k ∧ xs[j]? = some q) ∨ (k ∉ is ∧ ws[k]? = some q) ∨ (∃ j : Nat, k = ws.length + j ∧ xs[is.length + j]? = some q) := by
  intro is
  induction is with
  | nil =>
    intro ws xs _ _ k q h
    have h : (ws ++ xs)[k]? = some q := by cases xs <;> exact h
    rcases Nat.lt_or_ge k ws.length with hk | hk
    · rw [List.getElem?_append_left hk] at h
      exact Or.inr (Or.inl ⟨by simp, h⟩)
    · rw [List.getElem?_append_right hk] at h
      exact Or.inr (Or.inr ⟨k - ws.length, by omega, by simpa using h⟩)
  | cons i is ih =>
    intro ws xs hn hl k q h
    cases xs with
    | nil => simp at hl
    | cons x xs =>
      have hn2 := List.nodup_cons.mp hn
      rcases ih (ws.set i x) xs hn2.2 (by simpa using hl) k q h with ⟨j, h1, h2⟩ | ⟨h1, h2⟩ | ⟨j, h1, h2⟩
      · exact Or.inl ⟨j + 1, by simpa using h1, by simpa using h2⟩
      · by_cases hki : k = i
        · subst hki
          have hlt : k < (ws.set k x).length := (List.getElem?_eq_some_iff.mp h2).1
          rw [List.length_set] at hlt
          rw [List.getElem?_set_self hlt] at h2
          exact Or.inl ⟨0, rfl, by simpa using h2⟩
        · rw [List.getElem?_set_ne (fun e => hki e.symm)] at h2
          exact Or.inr (Or.inl ⟨by simp [hki, h1], h2⟩)
      · refine Or.inr (Or.inr ⟨j, by simpa using h1, ?_⟩)
        rw [show (i :: is).length + j = (is.length + j) + 1 by simp; omega]
        simpa using h2
def QW (D : va_G) (w0 : va_W) (sz : Nat) (Q : Option Value → va_W → Prop) : Array Value → State → Outcome → State → Prop := fun _ st oc t => (∃ (r : Option Value) (w1 : va_W), oc = .returned r ∧ Q r w1 ∧ va_P D vwCl w1 t.heap ∧ va_D (va_A w0 sz) w1 ∧ w0.length ≤ w1.length) ∧ va_F (va_A w0 sz) st t
def PW (D : va_G) (tys : List (ClassId × FieldType)) (av : List Value) (w0 : va_W) (sz : Nat) : Array Value → State → Prop := va_Pc av (fun U => U.heap.size = sz ∧ va_P D vwCl w0 U.heap ∧ va_K D vwCl tys U ∧ va_D (fun _ => True) w0 ∧ NW U)
def Ct (l : Launch) (D : va_G) (tys : List (ClassId × FieldType)) (y : MethodName) (cc : ByteArray) (maxL : Nat) (ret : Option FieldType) (fr lo mc ms : Nat) (av : List Value) (w0 : va_W) (Q : Option Value → va_W → Prop) : Prop :=
  ∀ sz : Nat, Met l y (.code y cc maxL ret :: ALL) ({ frames := fr, cells := mc, slots := ms, locals := lo }) (PW D tys av w0 sz) (QW D w0 sz Q) mc ms (va_A w0 sz)
def Fx (p : Program) (s : State) (m : MethodId) (args : Array Value) (c : Code) (cc : ByteArray) (own : String) (D : va_G) (tys : List (ClassId × FieldType)) (A : Nat → Prop) (nL fr lo : Nat) (R : Room) : Prop :=
  p.tables.exec = Jvm.exec ∧ c.code = cc ∧ c.maxLocals = nL ∧ s.vm.findClass own = some m.cls ∧ (∀ w ∈ ALL, w.before args s = true) ∧ NW s ∧ va_K D vwCl tys s ∧ (∀ q, s.heap.size ≤ q → A q) ∧ fr ≤ R.frames ∧ lo ≤ R.locals
def V (p : Program) (l : Launch) (e : Env) (R : Room) (s : State) (m : MethodId) (args : Array Value) (below : List Frame) (meth : Method) (c : Code) (D : va_G) (A : Nat → Prop) (nL cells slots : Nat) (Q : State → Prop) (pc : Nat) (lv : List (Nat × Value)) (st : List Value) (ws : va_W) : Prop :=
  ∀ (H : Heap) (locs : List Loc) (ls : Array Slot), va_P D vwCl ws H → va_D A ws → va_S A s.heap H locs → lv_has ls nL lv → W p l e R s m args below meth c H locs cells slots Q (F0 m pc ls st)
section VS
variable {p : Program} {l : Launch} {e : Env} {R : Room} {s : State} {m : MethodId} {args : Array Value} {below : List Frame} {meth : Method} {c : Code} {D : va_G} {A : Nat → Prop} {nL cells slots : Nat} {Q : State → Prop}
variable {cc : ByteArray} {own : String} {tys : List (ClassId × FieldType)} {fr lo : Nat} {pc q n : Nat} {lv lv' : List (Nat × Value)} {st rest : List Value} {ws ws' : va_W}
theorem v_ws (h : ws = ws') (k : V p l e R s m args below meth c D A nL cells slots Q pc lv st ws') : V p l e R s m args below meth c D A nL cells slots Q pc lv st ws := h ▸ k
theorem v_st {st' : List Value} (h : st = st') (k : V p l e R s m args below meth c D A nL cells slots Q pc lv st' ws) : V p l e R s m args below meth c D A nL cells slots Q pc lv st ws := h ▸ k
theorem v_lv (ks : List Nat) (h : lv_pick lv ks = lv') (k : V p l e R s m args below meth c D A nL cells slots Q pc lv' st ws) : V p l e R s m args below meth c D A nL cells slots Q pc lv st ws := fun H locs ls hP hD hS hl => k H locs ls hP hD hS (lv_sub hl ks h)
theorem v_int {x y : Int32} (h : x = y) (k : V p l e R s m args below meth c D A nL cells slots Q pc lv (.int y :: rest) ws) : V p l e R s m args below meth c D A nL cells slots Q pc lv (.int x :: rest) ws := h ▸ k
theorem v_long {x y : Int64} (h : x = y) (k : V p l e R s m args below meth c D A nL cells slots Q pc lv (.long y :: rest) ws) : V p l e R s m args below meth c D A nL cells slots Q pc lv (.long x :: rest) ws := h ▸ k
theorem v_wide {k2 n2 : Nat} (h1 : cells ≤ k2) (h2 : slots ≤ n2) (k : V p l e R s m args below meth c D A nL k2 n2 Q pc lv st ws) : V p l e R s m args below meth c D A nL cells slots Q pc lv st ws := fun H locs ls hP hD hS hl => W.widen h1 h2 (k H locs ls hP hD hS hl)
--GEN1
theorem v_iconst (F : Fx p s m args c cc own D tys A nL fr lo R) {n : Int} {v : Int32} (hd : decode cc pc = .ok (.iconst n, 1)) (hv : Int32.ofInt n = v) (hq : pc + 1 = q) (k : V p l e R s m args below meth c D A nL cells slots Q q lv (.int v :: st) ws) : V p l e R s m args below meth c D A nL cells slots Q pc lv st ws := by
  subst hq
  exact fun H locs ls hP hD hS hl => lv_iconst F.1 F.2.1 hd hv (k H locs ls hP hD hS hl)
theorem v_bipush (F : Fx p s m args c cc own D tys A nL fr lo R) {n : Int} {v : Int32} (hd : decode cc pc = .ok (.bipush n, 2)) (hv : (Int8.ofInt n).toInt32 = v) (hq : pc + 2 = q) (k : V p l e R s m args below meth c D A nL cells slots Q q lv (.int v :: st) ws) : V p l e R s m args below meth c D A nL cells slots Q pc lv st ws := by
  subst hq
  exact fun H locs ls hP hD hS hl => lv_bipush F.1 F.2.1 hd hv (k H locs ls hP hD hS hl)
theorem v_sipush (F : Fx p s m args c cc own D tys A nL fr lo R) {n : Int} {v : Int32} (hd : decode cc pc = .ok (.sipush n, 3)) (hv : (Int16.ofInt n).toInt32 = v) (hq : pc + 3 = q) (k : V p l e R s m args below meth c D A nL cells slots Q q lv (.int v :: st) ws) : V p l e R s m args below meth c D A nL cells slots Q pc lv st ws := by
  subst hq
  exact fun H locs ls hP hD hS hl => lv_sipush F.1 F.2.1 hd hv (k H locs ls hP hD hS hl)
theorem v_iload_n (F : Fx p s m args c cc own D tys A nL fr lo R) {k0 : Fin 4} {i : Nat} {x : Int32} (hd : decode cc pc = .ok (.iload_n k0, 1)) (hi : (k0 : Nat) = i) (j : Nat) (hj : lv[j]? = some (i, .int x)) (hq : pc + 1 = q) (k : V p l e R s m args below meth c D A nL cells slots Q q lv (.int x :: st) ws) : V p l e R s m args below meth c D A nL cells slots Q pc lv st ws := by
  subst hq
  exact fun H locs ls hP hD hS hl => lv_iload_n F.1 F.2.1 hd hi (lv_at hl j hj) (k H locs ls hP hD hS hl)
theorem v_iload (F : Fx p s m args c cc own D tys A nL fr lo R) {i : Nat} {x : Int32} (hd : decode cc pc = .ok (.iload i, 2)) (j : Nat) (hj : lv[j]? = some (i, .int x)) (hq : pc + 2 = q) (k : V p l e R s m args below meth c D A nL cells slots Q q lv (.int x :: st) ws) : V p l e R s m args below meth c D A nL cells slots Q pc lv st ws := by
  subst hq
  exact fun H locs ls hP hD hS hl => lv_iload F.1 F.2.1 hd (lv_at hl j hj) (k H locs ls hP hD hS hl)
theorem v_lload_n (F : Fx p s m args c cc own D tys A nL fr lo R) {k0 : Fin 4} {i : Nat} {x : Int64} (hd : decode cc pc = .ok (.lload_n k0, 1)) (hi : (k0 : Nat) = i) (j : Nat) (hj : lv[j]? = some (i, .long x)) (hq : pc + 1 = q) (k : V p l e R s m args below meth c D A nL cells slots Q q lv (.long x :: st) ws) : V p l e R s m args below meth c D A nL cells slots Q pc lv st ws := by
  subst hq
  exact fun H locs ls hP hD hS hl => lv_lload_n F.1 F.2.1 hd hi (lv_at hl j hj) (k H locs ls hP hD hS hl)
theorem v_lload (F : Fx p s m args c cc own D tys A nL fr lo R) {i : Nat} {x : Int64} (hd : decode cc pc = .ok (.lload i, 2)) (j : Nat) (hj : lv[j]? = some (i, .long x)) (hq : pc + 2 = q) (k : V p l e R s m args below meth c D A nL cells slots Q q lv (.long x :: st) ws) : V p l e R s m args below meth c D A nL cells slots Q pc lv st ws := by
  subst hq
  exact fun H locs ls hP hD hS hl => lv_lload F.1 F.2.1 hd (lv_at hl j hj) (k H locs ls hP hD hS hl)
theorem v_aload_n (F : Fx p s m args c cc own D tys A nL fr lo R) {k0 : Fin 4} {i : Nat} {x : Nat} (hd : decode cc pc = .ok (.aload_n k0, 1)) (hi : (k0 : Nat) = i) (j : Nat) (hj : lv[j]? = some (i, .ref x)) (hq : pc + 1 = q) (k : V p l e R s m args below meth c D A nL cells slots Q q lv (.ref x :: st) ws) : V p l e R s m args below meth c D A nL cells slots Q pc lv st ws := by
  subst hq
  exact fun H locs ls hP hD hS hl => lv_aload_n F.1 F.2.1 hd hi (lv_at hl j hj) (k H locs ls hP hD hS hl)
theorem v_aload (F : Fx p s m args c cc own D tys A nL fr lo R) {i : Nat} {x : Nat} (hd : decode cc pc = .ok (.aload i, 2)) (j : Nat) (hj : lv[j]? = some (i, .ref x)) (hq : pc + 2 = q) (k : V p l e R s m args below meth c D A nL cells slots Q q lv (.ref x :: st) ws) : V p l e R s m args below meth c D A nL cells slots Q pc lv st ws := by
  subst hq
  exact fun H locs ls hP hD hS hl => lv_aload F.1 F.2.1 hd (lv_at hl j hj) (k H locs ls hP hD hS hl)
theorem v_istore_n (F : Fx p s m args c cc own D tys A nL fr lo R) {k0 : Fin 4} {i : Nat} {x : Int32} (hd : decode cc pc = .ok (.istore_n k0, 1)) (hi : (k0 : Nat) = i) (hn : i < nL) (hl : (i, Value.int x) :: lv.filter (fun q => !(q.1 == i) && !(q.1 + 1 == i && q.2.category == 2)) = lv') (hq : pc + 1 = q) (k : V p l e R s m args below meth c D A nL cells slots Q q lv' st ws) : V p l e R s m args below meth c D A nL cells slots Q pc lv (.int x :: st) ws := by
  subst hq
  exact fun H locs ls hP hD hS h => lv_istore_n F.1 F.2.1 hd hi h hn hl (fun ls' h' => k H locs ls' hP hD hS h')
theorem v_istore (F : Fx p s m args c cc own D tys A nL fr lo R) {i : Nat} {x : Int32} (hd : decode cc pc = .ok (.istore i, 2)) (hn : i < nL) (hl : (i, Value.int x) :: lv.filter (fun q => !(q.1 == i) && !(q.1 + 1 == i && q.2.category == 2)) = lv') (hq : pc + 2 = q) (k : V p l e R s m args below meth c D A nL cells slots Q q lv' st ws) : V p l e R s m args below meth c D A nL cells slots Q pc lv (.int x :: st) ws := by
  subst hq
  exact fun H locs ls hP hD hS h => lv_istore F.1 F.2.1 hd h hn hl (fun ls' h' => k H locs ls' hP hD hS h')
theorem v_lstore_n (F : Fx p s m args c cc own D tys A nL fr lo R) {k0 : Fin 4} {i : Nat} {x : Int64} (hd : decode cc pc = .ok (.lstore_n k0, 1)) (hi : (k0 : Nat) = i) (hn : i + 1 < nL) (hl : (i, Value.long x) :: lv.filter (fun q => !(q.1 == i) && (!(q.1 == i + 1) && !(q.1 + 1 == i && q.2.category == 2))) = lv') (hq : pc + 1 = q) (k : V p l e R s m args below meth c D A nL cells slots Q q lv' st ws) : V p l e R s m args below meth c D A nL cells slots Q pc lv (.long x :: st) ws := by
  subst hq
  exact fun H locs ls hP hD hS h => lv_lstore_n F.1 F.2.1 hd hi h hn hl (fun ls' h' => k H locs ls' hP hD hS h')
theorem v_lstore (F : Fx p s m args c cc own D tys A nL fr lo R) {i : Nat} {x : Int64} (hd : decode cc pc = .ok (.lstore i, 2)) (hn : i + 1 < nL) (hl : (i, Value.long x) :: lv.filter (fun q => !(q.1 == i) && (!(q.1 == i + 1) && !(q.1 + 1 == i && q.2.category == 2))) = lv') (hq : pc + 2 = q) (k : V p l e R s m args below meth c D A nL cells slots Q q lv' st ws) : V p l e R s m args below meth c D A nL cells slots Q pc lv (.long x :: st) ws := by
  subst hq
  exact fun H locs ls hP hD hS h => lv_lstore F.1 F.2.1 hd h hn hl (fun ls' h' => k H locs ls' hP hD hS h')
theorem v_astore_n (F : Fx p s m args c cc own D tys A nL fr lo R) {k0 : Fin 4} {i : Nat} {x : Nat} (hd : decode cc pc = .ok (.astore_n k0, 1)) (hi : (k0 : Nat) = i) (hn : i < nL) (hl : (i, Value.ref x) :: lv.filter (fun q => !(q.1 == i) && !(q.1 + 1 == i && q.2.category == 2)) = lv') (hq : pc + 1 = q) (k : V p l e R s m args below meth c D A nL cells slots Q q lv' st ws) : V p l e R s m args below meth c D A nL cells slots Q pc lv (.ref x :: st) ws := by
  subst hq
  exact fun H locs ls hP hD hS h => lv_astore_n F.1 F.2.1 hd hi h hn hl (fun ls' h' => k H locs ls' hP hD hS h')
theorem v_astore (F : Fx p s m args c cc own D tys A nL fr lo R) {i : Nat} {x : Nat} (hd : decode cc pc = .ok (.astore i, 2)) (hn : i < nL) (hl : (i, Value.ref x) :: lv.filter (fun q => !(q.1 == i) && !(q.1 + 1 == i && q.2.category == 2)) = lv') (hq : pc + 2 = q) (k : V p l e R s m args below meth c D A nL cells slots Q q lv' st ws) : V p l e R s m args below meth c D A nL cells slots Q pc lv (.ref x :: st) ws := by
  subst hq
  exact fun H locs ls hP hD hS h => lv_astore F.1 F.2.1 hd h hn hl (fun ls' h' => k H locs ls' hP hD hS h')
theorem v_iinc (F : Fx p s m args c cc own D tys A nL fr lo R) {i : Nat} {n : Int} {x v : Int32} (hd : decode cc pc = .ok (.iinc i n, 3)) (j : Nat) (hj : lv[j]? = some (i, .int x)) (hv : x + Int32.ofInt n = v) (hn : i < nL) (hl : (i, Value.int v) :: lv.filter (fun q => !(q.1 == i) && !(q.1 + 1 == i && q.2.category == 2)) = lv') (hq : pc + 3 = q) (k : V p l e R s m args below meth c D A nL cells slots Q q lv' st ws) : V p l e R s m args below meth c D A nL cells slots Q pc lv st ws := by
  subst hq
  exact fun H locs ls hP hD hS h => lv_iinc F.1 F.2.1 hd h hj hv hn hl (fun ls' h' => k H locs ls' hP hD hS h')
theorem v_iadd (F : Fx p s m args c cc own D tys A nL fr lo R) {x y : Int32} (hd : decode cc pc = .ok (.iadd, 1)) (hq : pc + 1 = q) (k : V p l e R s m args below meth c D A nL cells slots Q q lv (.int (x + y) :: st) ws) : V p l e R s m args below meth c D A nL cells slots Q pc lv (.int y :: .int x :: st) ws := by
  subst hq
  exact fun H locs ls hP hD hS hl => lv_iadd F.1 F.2.1 hd (k H locs ls hP hD hS hl)
theorem v_isub (F : Fx p s m args c cc own D tys A nL fr lo R) {x y : Int32} (hd : decode cc pc = .ok (.isub, 1)) (hq : pc + 1 = q) (k : V p l e R s m args below meth c D A nL cells slots Q q lv (.int (x - y) :: st) ws) : V p l e R s m args below meth c D A nL cells slots Q pc lv (.int y :: .int x :: st) ws := by
  subst hq
  exact fun H locs ls hP hD hS hl => lv_isub F.1 F.2.1 hd (k H locs ls hP hD hS hl)
theorem v_imul (F : Fx p s m args c cc own D tys A nL fr lo R) {x y : Int32} (hd : decode cc pc = .ok (.imul, 1)) (hq : pc + 1 = q) (k : V p l e R s m args below meth c D A nL cells slots Q q lv (.int (x * y) :: st) ws) : V p l e R s m args below meth c D A nL cells slots Q pc lv (.int y :: .int x :: st) ws := by
  subst hq
  exact fun H locs ls hP hD hS hl => lv_imul F.1 F.2.1 hd (k H locs ls hP hD hS hl)
theorem v_iand (F : Fx p s m args c cc own D tys A nL fr lo R) {x y : Int32} (hd : decode cc pc = .ok (.iand, 1)) (hq : pc + 1 = q) (k : V p l e R s m args below meth c D A nL cells slots Q q lv (.int (x &&& y) :: st) ws) : V p l e R s m args below meth c D A nL cells slots Q pc lv (.int y :: .int x :: st) ws := by
  subst hq
  exact fun H locs ls hP hD hS hl => lv_iand F.1 F.2.1 hd (k H locs ls hP hD hS hl)
theorem v_ior (F : Fx p s m args c cc own D tys A nL fr lo R) {x y : Int32} (hd : decode cc pc = .ok (.ior, 1)) (hq : pc + 1 = q) (k : V p l e R s m args below meth c D A nL cells slots Q q lv (.int (x ||| y) :: st) ws) : V p l e R s m args below meth c D A nL cells slots Q pc lv (.int y :: .int x :: st) ws := by
  subst hq
  exact fun H locs ls hP hD hS hl => lv_ior F.1 F.2.1 hd (k H locs ls hP hD hS hl)
theorem v_ixor (F : Fx p s m args c cc own D tys A nL fr lo R) {x y : Int32} (hd : decode cc pc = .ok (.ixor, 1)) (hq : pc + 1 = q) (k : V p l e R s m args below meth c D A nL cells slots Q q lv (.int (x ^^^ y) :: st) ws) : V p l e R s m args below meth c D A nL cells slots Q pc lv (.int y :: .int x :: st) ws := by
  subst hq
  exact fun H locs ls hP hD hS hl => lv_ixor F.1 F.2.1 hd (k H locs ls hP hD hS hl)
theorem v_ishl (F : Fx p s m args c cc own D tys A nL fr lo R) {x y : Int32} (hd : decode cc pc = .ok (.ishl, 1)) (hq : pc + 1 = q) (k : V p l e R s m args below meth c D A nL cells slots Q q lv (.int (x <<< (y &&& 31)) :: st) ws) : V p l e R s m args below meth c D A nL cells slots Q pc lv (.int y :: .int x :: st) ws := by
  subst hq
  exact fun H locs ls hP hD hS hl => lv_ishl F.1 F.2.1 hd (k H locs ls hP hD hS hl)
theorem v_ishr (F : Fx p s m args c cc own D tys A nL fr lo R) {x y : Int32} (hd : decode cc pc = .ok (.ishr, 1)) (hq : pc + 1 = q) (k : V p l e R s m args below meth c D A nL cells slots Q q lv (.int (x >>> (y &&& 31)) :: st) ws) : V p l e R s m args below meth c D A nL cells slots Q pc lv (.int y :: .int x :: st) ws := by
  subst hq
  exact fun H locs ls hP hD hS hl => lv_ishr F.1 F.2.1 hd (k H locs ls hP hD hS hl)
theorem v_ladd (F : Fx p s m args c cc own D tys A nL fr lo R) {x y : Int64} (hd : decode cc pc = .ok (.ladd, 1)) (hq : pc + 1 = q) (k : V p l e R s m args below meth c D A nL cells slots Q q lv (.long (x + y) :: st) ws) : V p l e R s m args below meth c D A nL cells slots Q pc lv (.long y :: .long x :: st) ws := by
  subst hq
  exact fun H locs ls hP hD hS hl => lv_ladd F.1 F.2.1 hd (k H locs ls hP hD hS hl)
theorem v_lsub (F : Fx p s m args c cc own D tys A nL fr lo R) {x y : Int64} (hd : decode cc pc = .ok (.lsub, 1)) (hq : pc + 1 = q) (k : V p l e R s m args below meth c D A nL cells slots Q q lv (.long (x - y) :: st) ws) : V p l e R s m args below meth c D A nL cells slots Q pc lv (.long y :: .long x :: st) ws := by
  subst hq
  exact fun H locs ls hP hD hS hl => lv_lsub F.1 F.2.1 hd (k H locs ls hP hD hS hl)
theorem v_lmul (F : Fx p s m args c cc own D tys A nL fr lo R) {x y : Int64} (hd : decode cc pc = .ok (.lmul, 1)) (hq : pc + 1 = q) (k : V p l e R s m args below meth c D A nL cells slots Q q lv (.long (x * y) :: st) ws) : V p l e R s m args below meth c D A nL cells slots Q pc lv (.long y :: .long x :: st) ws := by
  subst hq
  exact fun H locs ls hP hD hS hl => lv_lmul F.1 F.2.1 hd (k H locs ls hP hD hS hl)
theorem v_ineg (F : Fx p s m args c cc own D tys A nL fr lo R) {x : Int32} (hd : decode cc pc = .ok (.ineg, 1)) (hq : pc + 1 = q) (k : V p l e R s m args below meth c D A nL cells slots Q q lv (.int (-x) :: st) ws) : V p l e R s m args below meth c D A nL cells slots Q pc lv (.int x :: st) ws := by
  subst hq
  exact fun H locs ls hP hD hS hl => lv_ineg F.1 F.2.1 hd (k H locs ls hP hD hS hl)
theorem v_lneg (F : Fx p s m args c cc own D tys A nL fr lo R) {x : Int64} (hd : decode cc pc = .ok (.lneg, 1)) (hq : pc + 1 = q) (k : V p l e R s m args below meth c D A nL cells slots Q q lv (.long (-x) :: st) ws) : V p l e R s m args below meth c D A nL cells slots Q pc lv (.long x :: st) ws := by
  subst hq
  exact fun H locs ls hP hD hS hl => lv_lneg F.1 F.2.1 hd (k H locs ls hP hD hS hl)
theorem v_i2l (F : Fx p s m args c cc own D tys A nL fr lo R) {x : Int32} (hd : decode cc pc = .ok (.i2l, 1)) (hq : pc + 1 = q) (k : V p l e R s m args below meth c D A nL cells slots Q q lv (.long x.toInt64 :: st) ws) : V p l e R s m args below meth c D A nL cells slots Q pc lv (.int x :: st) ws := by
  subst hq
  exact fun H locs ls hP hD hS hl => lv_i2l F.1 F.2.1 hd rfl (k H locs ls hP hD hS hl)
theorem v_iushr (F : Fx p s m args c cc own D tys A nL fr lo R) {x y v : Int32} (hd : decode cc pc = .ok (.iushr, 1)) (hv : (x.toUInt32 >>> (y.toUInt32 &&& Int32.toUInt32 31)).toInt32 = v) (hq : pc + 1 = q) (k : V p l e R s m args below meth c D A nL cells slots Q q lv (.int v :: st) ws) : V p l e R s m args below meth c D A nL cells slots Q pc lv (.int y :: .int x :: st) ws := by
  subst hq
  exact fun H locs ls hP hD hS hl => lv_iushr F.1 F.2.1 hd hv (k H locs ls hP hD hS hl)
theorem v_lconst (F : Fx p s m args c cc own D tys A nL fr lo R) {n : Fin 2} {v : Int64} (hd : decode cc pc = .ok (.lconst n, 1)) (hv : Int64.ofNat (n : Nat) = v) (hq : pc + 1 = q) (k : V p l e R s m args below meth c D A nL cells slots Q q lv (.long v :: st) ws) : V p l e R s m args below meth c D A nL cells slots Q pc lv st ws := by
  subst hq
  exact fun H locs ls hP hD hS hl => lv_lconst F.1 F.2.1 hd hv (k H locs ls hP hD hS hl)
theorem v_dup (F : Fx p s m args c cc own D tys A nL fr lo R) {va : Value} (hd : decode cc pc = .ok (.dup, 1)) (hc : va.category = 1) (hq : pc + 1 = q) (k : V p l e R s m args below meth c D A nL cells slots Q q lv (va :: va :: st) ws) : V p l e R s m args below meth c D A nL cells slots Q pc lv (va :: st) ws := by
  subst hq
  exact fun H locs ls hP hD hS hl => lv_dup F.1 F.2.1 hd hc (k H locs ls hP hD hS hl)
theorem v_pop (F : Fx p s m args c cc own D tys A nL fr lo R) {va : Value} (hd : decode cc pc = .ok (.pop, 1)) (hc : va.category = 1) (hq : pc + 1 = q) (k : V p l e R s m args below meth c D A nL cells slots Q q lv st ws) : V p l e R s m args below meth c D A nL cells slots Q pc lv (va :: st) ws := by
  subst hq
  exact fun H locs ls hP hD hS hl => lv_pop F.1 F.2.1 hd hc (k H locs ls hP hD hS hl)
theorem v_dup2_11 (F : Fx p s m args c cc own D tys A nL fr lo R) {va vb : Value} (hd : decode cc pc = .ok (.dup2, 1)) (hc : va.category = 1) (hc2 : vb.category = 1) (hq : pc + 1 = q) (k : V p l e R s m args below meth c D A nL cells slots Q q lv (va :: vb :: va :: vb :: st) ws) : V p l e R s m args below meth c D A nL cells slots Q pc lv (va :: vb :: st) ws := by
  subst hq
  exact fun H locs ls hP hD hS hl => lv_dup2_11 F.1 F.2.1 hd hc hc2 (k H locs ls hP hD hS hl)
theorem v_dup_x1 (F : Fx p s m args c cc own D tys A nL fr lo R) {va vb : Value} (hd : decode cc pc = .ok (.dup_x1, 1)) (hc : va.category = 1) (hc2 : vb.category = 1) (hq : pc + 1 = q) (k : V p l e R s m args below meth c D A nL cells slots Q q lv (va :: vb :: va :: st) ws) : V p l e R s m args below meth c D A nL cells slots Q pc lv (va :: vb :: st) ws := by
  subst hq
  exact fun H locs ls hP hD hS hl => lv_dup_x1 F.1 F.2.1 hd hc hc2 (k H locs ls hP hD hS hl)
theorem v_lcmp (F : Fx p s m args c cc own D tys A nL fr lo R) {x y : Int64} (hd : decode cc pc = .ok (.lcmp, 1)) (hq : pc + 1 = q) (k : V p l e R s m args below meth c D A nL cells slots Q q lv (.int (lg_cmp x y) :: st) ws) : V p l e R s m args below meth c D A nL cells slots Q pc lv (.long y :: .long x :: st) ws := by
  subst hq
  exact fun H locs ls hP hD hS hl => W.lcmp F.1 F.2.1 hd (k H locs ls hP hD hS hl)
theorem v_if_eq (F : Fx p s m args c cc own D tys A nL fr lo R) {x : Int32} {off : Int} {tgt : Nat} (hd : decode cc pc = .ok (.ifCond .eq off, 3)) (ht : (pc : Int) + off = (tgt : Int)) (hq : pc + 3 = q) (kt : x = 0 → V p l e R s m args below meth c D A nL cells slots Q tgt lv st ws) (kf : ¬ x = 0 → V p l e R s m args below meth c D A nL cells slots Q q lv st ws) : V p l e R s m args below meth c D A nL cells slots Q pc lv (.int x :: st) ws := by
  subst hq
  exact fun H locs ls hP hD hS hl => lv_if_eq F.1 F.2.1 hd ht (fun z => kt z H locs ls hP hD hS hl) (fun z => kf z H locs ls hP hD hS hl)
theorem v_icmp_eq (F : Fx p s m args c cc own D tys A nL fr lo R) {x y : Int32} {off : Int} {tgt : Nat} (hd : decode cc pc = .ok (.if_icmp .eq off, 3)) (ht : (pc : Int) + off = (tgt : Int)) (hq : pc + 3 = q) (kt : x = y → V p l e R s m args below meth c D A nL cells slots Q tgt lv st ws) (kf : ¬ x = y → V p l e R s m args below meth c D A nL cells slots Q q lv st ws) : V p l e R s m args below meth c D A nL cells slots Q pc lv (.int y :: .int x :: st) ws := by
  subst hq
  exact fun H locs ls hP hD hS hl => lv_icmp_eq F.1 F.2.1 hd ht (fun z => kt z H locs ls hP hD hS hl) (fun z => kf z H locs ls hP hD hS hl)
theorem v_if_ne (F : Fx p s m args c cc own D tys A nL fr lo R) {x : Int32} {off : Int} {tgt : Nat} (hd : decode cc pc = .ok (.ifCond .ne off, 3)) (ht : (pc : Int) + off = (tgt : Int)) (hq : pc + 3 = q) (kt : ¬ x = 0 → V p l e R s m args below meth c D A nL cells slots Q tgt lv st ws) (kf : x = 0 → V p l e R s m args below meth c D A nL cells slots Q q lv st ws) : V p l e R s m args below meth c D A nL cells slots Q pc lv (.int x :: st) ws := by
  subst hq
  exact fun H locs ls hP hD hS hl => lv_if_ne F.1 F.2.1 hd ht (fun z => kt z H locs ls hP hD hS hl) (fun z => kf z H locs ls hP hD hS hl)
theorem v_icmp_ne (F : Fx p s m args c cc own D tys A nL fr lo R) {x y : Int32} {off : Int} {tgt : Nat} (hd : decode cc pc = .ok (.if_icmp .ne off, 3)) (ht : (pc : Int) + off = (tgt : Int)) (hq : pc + 3 = q) (kt : ¬ x = y → V p l e R s m args below meth c D A nL cells slots Q tgt lv st ws) (kf : x = y → V p l e R s m args below meth c D A nL cells slots Q q lv st ws) : V p l e R s m args below meth c D A nL cells slots Q pc lv (.int y :: .int x :: st) ws := by
  subst hq
  exact fun H locs ls hP hD hS hl => lv_icmp_ne F.1 F.2.1 hd ht (fun z => kt z H locs ls hP hD hS hl) (fun z => kf z H locs ls hP hD hS hl)
theorem v_if_lt (F : Fx p s m args c cc own D tys A nL fr lo R) {x : Int32} {off : Int} {tgt : Nat} (hd : decode cc pc = .ok (.ifCond .lt off, 3)) (ht : (pc : Int) + off = (tgt : Int)) (hq : pc + 3 = q) (kt : x < 0 → V p l e R s m args below meth c D A nL cells slots Q tgt lv st ws) (kf : ¬ x < 0 → V p l e R s m args below meth c D A nL cells slots Q q lv st ws) : V p l e R s m args below meth c D A nL cells slots Q pc lv (.int x :: st) ws := by
  subst hq
  exact fun H locs ls hP hD hS hl => lv_if_lt F.1 F.2.1 hd ht (fun z => kt z H locs ls hP hD hS hl) (fun z => kf z H locs ls hP hD hS hl)
theorem v_icmp_lt (F : Fx p s m args c cc own D tys A nL fr lo R) {x y : Int32} {off : Int} {tgt : Nat} (hd : decode cc pc = .ok (.if_icmp .lt off, 3)) (ht : (pc : Int) + off = (tgt : Int)) (hq : pc + 3 = q) (kt : x < y → V p l e R s m args below meth c D A nL cells slots Q tgt lv st ws) (kf : ¬ x < y → V p l e R s m args below meth c D A nL cells slots Q q lv st ws) : V p l e R s m args below meth c D A nL cells slots Q pc lv (.int y :: .int x :: st) ws := by
  subst hq
  exact fun H locs ls hP hD hS hl => lv_icmp_lt F.1 F.2.1 hd ht (fun z => kt z H locs ls hP hD hS hl) (fun z => kf z H locs ls hP hD hS hl)
theorem v_if_ge (F : Fx p s m args c cc own D tys A nL fr lo R) {x : Int32} {off : Int} {tgt : Nat} (hd : decode cc pc = .ok (.ifCond .ge off, 3)) (ht : (pc : Int) + off = (tgt : Int)) (hq : pc + 3 = q) (kt : 0 ≤ x → V p l e R s m args below meth c D A nL cells slots Q tgt lv st ws) (kf : ¬ 0 ≤ x → V p l e R s m args below meth c D A nL cells slots Q q lv st ws) : V p l e R s m args below meth c D A nL cells slots Q pc lv (.int x :: st) ws := by
  subst hq
  exact fun H locs ls hP hD hS hl => lv_if_ge F.1 F.2.1 hd ht (fun z => kt z H locs ls hP hD hS hl) (fun z => kf z H locs ls hP hD hS hl)
theorem v_icmp_ge (F : Fx p s m args c cc own D tys A nL fr lo R) {x y : Int32} {off : Int} {tgt : Nat} (hd : decode cc pc = .ok (.if_icmp .ge off, 3)) (ht : (pc : Int) + off = (tgt : Int)) (hq : pc + 3 = q) (kt : y ≤ x → V p l e R s m args below meth c D A nL cells slots Q tgt lv st ws) (kf : ¬ y ≤ x → V p l e R s m args below meth c D A nL cells slots Q q lv st ws) : V p l e R s m args below meth c D A nL cells slots Q pc lv (.int y :: .int x :: st) ws := by
  subst hq
  exact fun H locs ls hP hD hS hl => lv_icmp_ge F.1 F.2.1 hd ht (fun z => kt z H locs ls hP hD hS hl) (fun z => kf z H locs ls hP hD hS hl)
theorem v_if_gt (F : Fx p s m args c cc own D tys A nL fr lo R) {x : Int32} {off : Int} {tgt : Nat} (hd : decode cc pc = .ok (.ifCond .gt off, 3)) (ht : (pc : Int) + off = (tgt : Int)) (hq : pc + 3 = q) (kt : 0 < x → V p l e R s m args below meth c D A nL cells slots Q tgt lv st ws) (kf : ¬ 0 < x → V p l e R s m args below meth c D A nL cells slots Q q lv st ws) : V p l e R s m args below meth c D A nL cells slots Q pc lv (.int x :: st) ws := by
  subst hq
  exact fun H locs ls hP hD hS hl => lv_if_gt F.1 F.2.1 hd ht (fun z => kt z H locs ls hP hD hS hl) (fun z => kf z H locs ls hP hD hS hl)
theorem v_icmp_gt (F : Fx p s m args c cc own D tys A nL fr lo R) {x y : Int32} {off : Int} {tgt : Nat} (hd : decode cc pc = .ok (.if_icmp .gt off, 3)) (ht : (pc : Int) + off = (tgt : Int)) (hq : pc + 3 = q) (kt : y < x → V p l e R s m args below meth c D A nL cells slots Q tgt lv st ws) (kf : ¬ y < x → V p l e R s m args below meth c D A nL cells slots Q q lv st ws) : V p l e R s m args below meth c D A nL cells slots Q pc lv (.int y :: .int x :: st) ws := by
  subst hq
  exact fun H locs ls hP hD hS hl => lv_icmp_gt F.1 F.2.1 hd ht (fun z => kt z H locs ls hP hD hS hl) (fun z => kf z H locs ls hP hD hS hl)
theorem v_if_le (F : Fx p s m args c cc own D tys A nL fr lo R) {x : Int32} {off : Int} {tgt : Nat} (hd : decode cc pc = .ok (.ifCond .le off, 3)) (ht : (pc : Int) + off = (tgt : Int)) (hq : pc + 3 = q) (kt : x ≤ 0 → V p l e R s m args below meth c D A nL cells slots Q tgt lv st ws) (kf : ¬ x ≤ 0 → V p l e R s m args below meth c D A nL cells slots Q q lv st ws) : V p l e R s m args below meth c D A nL cells slots Q pc lv (.int x :: st) ws := by
  subst hq
  exact fun H locs ls hP hD hS hl => lv_if_le F.1 F.2.1 hd ht (fun z => kt z H locs ls hP hD hS hl) (fun z => kf z H locs ls hP hD hS hl)
theorem v_icmp_le (F : Fx p s m args c cc own D tys A nL fr lo R) {x y : Int32} {off : Int} {tgt : Nat} (hd : decode cc pc = .ok (.if_icmp .le off, 3)) (ht : (pc : Int) + off = (tgt : Int)) (hq : pc + 3 = q) (kt : x ≤ y → V p l e R s m args below meth c D A nL cells slots Q tgt lv st ws) (kf : ¬ x ≤ y → V p l e R s m args below meth c D A nL cells slots Q q lv st ws) : V p l e R s m args below meth c D A nL cells slots Q pc lv (.int y :: .int x :: st) ws := by
  subst hq
  exact fun H locs ls hP hD hS hl => lv_icmp_le F.1 F.2.1 hd ht (fun z => kt z H locs ls hP hD hS hl) (fun z => kf z H locs ls hP hD hS hl)
theorem lgc_eq (x y : Int64) : lg_cmp x y = 0 ↔ x = y := by
  unfold lg_cmp
  by_cases h : x > y
  · rw [if_pos h]; exact ⟨fun z => absurd z (by decide), fun z => by subst z; exact absurd h (by simp [Int64.lt_irrefl])⟩
  · rw [if_neg h]
    by_cases h2 : x = y
    · rw [if_pos h2]; simp [h2]
    · rw [if_neg h2]; exact ⟨fun z => absurd z (by decide), fun z => absurd z h2⟩
theorem lgc_lt (x y : Int64) : lg_cmp x y < 0 ↔ x < y := by
  unfold lg_cmp
  by_cases h : x > y
  · rw [if_pos h]; exact ⟨fun z => absurd z (by decide), fun z => absurd z (by rw [Int64.lt_iff_toInt_lt] at *; have h3 : y.toInt < x.toInt := Int64.lt_iff_toInt_lt.mp h; omega)⟩
  · rw [if_neg h]
    by_cases h2 : x = y
    · rw [if_pos h2]; subst h2; exact ⟨fun z => absurd z (by decide), fun z => absurd z h⟩
    · rw [if_neg h2]; refine ⟨fun _ => ?_, fun _ => by decide⟩
      have h3 : ¬ y.toInt < x.toInt := fun z => h (Int64.lt_iff_toInt_lt.mpr z)
      have h4 : ¬ x.toInt = y.toInt := fun z => h2 (Int64.toInt_inj.mp z)
      exact Int64.lt_iff_toInt_lt.mpr (by omega)
theorem lgc_gt (x y : Int64) : 0 < lg_cmp x y ↔ y < x := by
  unfold lg_cmp
  by_cases h : x > y
  · rw [if_pos h]; exact ⟨fun _ => h, fun _ => by decide⟩
  · rw [if_neg h]
    by_cases h2 : x = y
    · rw [if_pos h2]; exact ⟨fun z => absurd z (by decide), fun z => absurd z h⟩
    · rw [if_neg h2]; exact ⟨fun z => absurd z (by decide), fun z => absurd z h⟩
theorem i32_nlt {a b : Int32} : ¬ a < b ↔ b ≤ a := by rw [Int32.lt_iff_toInt_lt, Int32.le_iff_toInt_le]; omega
theorem i32_nle {a b : Int32} : ¬ a ≤ b ↔ b < a := by rw [Int32.lt_iff_toInt_lt, Int32.le_iff_toInt_le]; omega
theorem i64_nlt {a b : Int64} : ¬ a < b ↔ b ≤ a := by rw [Int64.lt_iff_toInt_lt, Int64.le_iff_toInt_le]; omega
theorem i64_nle {a b : Int64} : ¬ a ≤ b ↔ b < a := by rw [Int64.lt_iff_toInt_lt, Int64.le_iff_toInt_le]; omega
theorem v_lcmp_eq (F : Fx p s m args c cc own D tys A nL fr lo R) {x y : Int64} {off : Int} {tgt : Nat} (hd : decode cc pc = .ok (.lcmp, 1)) (hd2 : decode cc (pc + 1) = .ok (.ifCond .eq off, 3)) (ht : ((pc + 1 : Nat) : Int) + off = (tgt : Int)) (hq : pc + 4 = q) (kt : x = y → V p l e R s m args below meth c D A nL cells slots Q tgt lv st ws) (kf : ¬ x = y → V p l e R s m args below meth c D A nL cells slots Q q lv st ws) : V p l e R s m args below meth c D A nL cells slots Q pc lv (.long y :: .long x :: st) ws := by
  subst hq
  exact fun H locs ls hP hD hS hl => W.lcmp F.1 F.2.1 hd (lv_if_eq F.1 F.2.1 hd2 ht (fun z => kt ((lgc_eq x y).mp z) H locs ls hP hD hS hl) (fun z => kf (fun w => z ((lgc_eq x y).mpr w)) H locs ls hP hD hS hl))
theorem v_lcmp_ne (F : Fx p s m args c cc own D tys A nL fr lo R) {x y : Int64} {off : Int} {tgt : Nat} (hd : decode cc pc = .ok (.lcmp, 1)) (hd2 : decode cc (pc + 1) = .ok (.ifCond .ne off, 3)) (ht : ((pc + 1 : Nat) : Int) + off = (tgt : Int)) (hq : pc + 4 = q) (kt : ¬ x = y → V p l e R s m args below meth c D A nL cells slots Q tgt lv st ws) (kf : x = y → V p l e R s m args below meth c D A nL cells slots Q q lv st ws) : V p l e R s m args below meth c D A nL cells slots Q pc lv (.long y :: .long x :: st) ws := by
  subst hq
  exact fun H locs ls hP hD hS hl => W.lcmp F.1 F.2.1 hd (lv_if_ne F.1 F.2.1 hd2 ht (fun z => kt (fun w => z ((lgc_eq x y).mpr w)) H locs ls hP hD hS hl) (fun z => kf ((lgc_eq x y).mp z) H locs ls hP hD hS hl))
theorem v_lcmp_lt (F : Fx p s m args c cc own D tys A nL fr lo R) {x y : Int64} {off : Int} {tgt : Nat} (hd : decode cc pc = .ok (.lcmp, 1)) (hd2 : decode cc (pc + 1) = .ok (.ifCond .lt off, 3)) (ht : ((pc + 1 : Nat) : Int) + off = (tgt : Int)) (hq : pc + 4 = q) (kt : x < y → V p l e R s m args below meth c D A nL cells slots Q tgt lv st ws) (kf : ¬ x < y → V p l e R s m args below meth c D A nL cells slots Q q lv st ws) : V p l e R s m args below meth c D A nL cells slots Q pc lv (.long y :: .long x :: st) ws := by
  subst hq
  exact fun H locs ls hP hD hS hl => W.lcmp F.1 F.2.1 hd (lv_if_lt F.1 F.2.1 hd2 ht (fun z => kt ((lgc_lt x y).mp z) H locs ls hP hD hS hl) (fun z => kf (fun w => z ((lgc_lt x y).mpr w)) H locs ls hP hD hS hl))
theorem v_lcmp_ge (F : Fx p s m args c cc own D tys A nL fr lo R) {x y : Int64} {off : Int} {tgt : Nat} (hd : decode cc pc = .ok (.lcmp, 1)) (hd2 : decode cc (pc + 1) = .ok (.ifCond .ge off, 3)) (ht : ((pc + 1 : Nat) : Int) + off = (tgt : Int)) (hq : pc + 4 = q) (kt : y ≤ x → V p l e R s m args below meth c D A nL cells slots Q tgt lv st ws) (kf : ¬ y ≤ x → V p l e R s m args below meth c D A nL cells slots Q q lv st ws) : V p l e R s m args below meth c D A nL cells slots Q pc lv (.long y :: .long x :: st) ws := by
  subst hq
  exact fun H locs ls hP hD hS hl => W.lcmp F.1 F.2.1 hd (lv_if_ge F.1 F.2.1 hd2 ht (fun z => kt (i64_nlt.mp (fun w => (i32_nle.mpr ((lgc_lt x y).mpr w)) z)) H locs ls hP hD hS hl) (fun z => kf (fun w => z (i32_nlt.mp (fun w2 => (i64_nlt.mpr w) ((lgc_lt x y).mp w2)))) H locs ls hP hD hS hl))
theorem v_lcmp_gt (F : Fx p s m args c cc own D tys A nL fr lo R) {x y : Int64} {off : Int} {tgt : Nat} (hd : decode cc pc = .ok (.lcmp, 1)) (hd2 : decode cc (pc + 1) = .ok (.ifCond .gt off, 3)) (ht : ((pc + 1 : Nat) : Int) + off = (tgt : Int)) (hq : pc + 4 = q) (kt : y < x → V p l e R s m args below meth c D A nL cells slots Q tgt lv st ws) (kf : ¬ y < x → V p l e R s m args below meth c D A nL cells slots Q q lv st ws) : V p l e R s m args below meth c D A nL cells slots Q pc lv (.long y :: .long x :: st) ws := by
  subst hq
  exact fun H locs ls hP hD hS hl => W.lcmp F.1 F.2.1 hd (lv_if_gt F.1 F.2.1 hd2 ht (fun z => kt ((lgc_gt x y).mp z) H locs ls hP hD hS hl) (fun z => kf (fun w => z ((lgc_gt x y).mpr w)) H locs ls hP hD hS hl))
theorem v_lcmp_le (F : Fx p s m args c cc own D tys A nL fr lo R) {x y : Int64} {off : Int} {tgt : Nat} (hd : decode cc pc = .ok (.lcmp, 1)) (hd2 : decode cc (pc + 1) = .ok (.ifCond .le off, 3)) (ht : ((pc + 1 : Nat) : Int) + off = (tgt : Int)) (hq : pc + 4 = q) (kt : x ≤ y → V p l e R s m args below meth c D A nL cells slots Q tgt lv st ws) (kf : ¬ x ≤ y → V p l e R s m args below meth c D A nL cells slots Q q lv st ws) : V p l e R s m args below meth c D A nL cells slots Q pc lv (.long y :: .long x :: st) ws := by
  subst hq
  exact fun H locs ls hP hD hS hl => W.lcmp F.1 F.2.1 hd (lv_if_le F.1 F.2.1 hd2 ht (fun z => kt (i64_nlt.mp (fun w => (i32_nle.mpr ((lgc_gt x y).mpr w)) z)) H locs ls hP hD hS hl) (fun z => kf (fun w => z (i32_nlt.mp (fun w2 => (i64_nlt.mpr w) ((lgc_gt x y).mp w2)))) H locs ls hP hD hS hl))
theorem v_idiv (F : Fx p s m args c cc own D tys A nL fr lo R) {x y : Int32} (hd : decode cc pc = .ok (.idiv, 1)) (hne : ¬ y = 0) (hq : pc + 1 = q) (k : V p l e R s m args below meth c D A nL cells slots Q q lv (.int (x / y) :: st) ws) : V p l e R s m args below meth c D A nL cells slots Q pc lv (.int y :: .int x :: st) ws := by
  subst hq
  exact fun H locs ls hP hD hS hl => lv_idiv F.1 F.2.1 hd hne (k H locs ls hP hD hS hl)
theorem v_ldiv (F : Fx p s m args c cc own D tys A nL fr lo R) {x y : Int64} (hd : decode cc pc = .ok (.ldiv, 1)) (hne : ¬ y = 0) (hq : pc + 1 = q) (k : V p l e R s m args below meth c D A nL cells slots Q q lv (.long (x / y) :: st) ws) : V p l e R s m args below meth c D A nL cells slots Q pc lv (.long y :: .long x :: st) ws := by
  subst hq
  exact fun H locs ls hP hD hS hl => lv_ldiv F.1 F.2.1 hd hne (k H locs ls hP hD hS hl)
theorem v_irem (F : Fx p s m args c cc own D tys A nL fr lo R) {x y : Int32} (hd : decode cc pc = .ok (.irem, 1)) (hne : ¬ y = 0) (hq : pc + 1 = q) (k : V p l e R s m args below meth c D A nL cells slots Q q lv (.int (x - x / y * y) :: st) ws) : V p l e R s m args below meth c D A nL cells slots Q pc lv (.int y :: .int x :: st) ws := by
  subst hq
  exact fun H locs ls hP hD hS hl => lv_irem F.1 F.2.1 hd hne (k H locs ls hP hD hS hl)
theorem v_lrem (F : Fx p s m args c cc own D tys A nL fr lo R) {x y : Int64} (hd : decode cc pc = .ok (.lrem, 1)) (hne : ¬ y = 0) (hq : pc + 1 = q) (k : V p l e R s m args below meth c D A nL cells slots Q q lv (.long (x - x / y * y) :: st) ws) : V p l e R s m args below meth c D A nL cells slots Q pc lv (.long y :: .long x :: st) ws := by
  subst hq
  exact fun H locs ls hP hD hS hl => lv_lrem F.1 F.2.1 hd hne (k H locs ls hP hD hS hl)
theorem v_goto (F : Fx p s m args c cc own D tys A nL fr lo R) {off : Int} {tgt : Nat} (hd : decode cc pc = .ok (.goto off, 3)) (ht : (pc : Int) + off = (tgt : Int)) (k : V p l e R s m args below meth c D A nL cells slots Q tgt lv st ws) : V p l e R s m args below meth c D A nL cells slots Q pc lv st ws := fun H locs ls hP hD hS hl => lv_goto F.1 F.2.1 hd ht (k H locs ls hP hD hS hl)
theorem v_iald (F : Fx p s m args c cc own D tys A nL fr lo R) (q0 t0 : Nat) {a : Nat} {cA : ClassId} {n : Nat} {f : Nat → Int32} (ha : ws[q0]? = some (a, .inl (cA, n, .inl f))) (ht : tys[t0]? = some (cA, .int)) {i : Int32} (hin : vp_in i n) (hd : decode cc pc = .ok (.iaload, 1)) (hq : pc + 1 = q) (k : V p l e R s m args below meth c D A nL cells slots Q q lv (.int (f i.toNatClampNeg) :: st) ws) : V p l e R s m args below meth c D A nL cells slots Q pc lv (.int i :: .ref a :: st) ws := by
  subst hq
  exact fun H locs ls hP hD hS hl => va_iald F.1 F.2.1 F.2.2.2.2.2.2.1 hP q0 t0 ha ht hin hd (k H locs ls hP hD hS hl)
theorem v_ialdN (F : Fx p s m args c cc own D tys A nL fr lo R) (q0 t0 : Nat) {a : Nat} {cA : ClassId} {n j : Nat} {f : Nat → Int32} (ha : ws[q0]? = some (a, .inl (cA, n, .inl f))) (ht : tys[t0]? = some (cA, .int)) (hj : j < n) (hn : n < 2 ^ 31) (hd : decode cc pc = .ok (.iaload, 1)) (hq : pc + 1 = q) (k : V p l e R s m args below meth c D A nL cells slots Q q lv (.int (f j) :: st) ws) : V p l e R s m args below meth c D A nL cells slots Q pc lv (.int (nI j) :: .ref a :: st) ws := v_iald F q0 t0 ha ht (vp_in_nI hj hn) hd hq (by rw [nI_clamp (by omega)]; exact k)
theorem v_lald (F : Fx p s m args c cc own D tys A nL fr lo R) (q0 t0 : Nat) {a : Nat} {cA : ClassId} {n : Nat} {f : Nat → Int64} (ha : ws[q0]? = some (a, .inl (cA, n, .inr (.inl f)))) (ht : tys[t0]? = some (cA, .long)) {i : Int32} (hin : vp_in i n) (hd : decode cc pc = .ok (.laload, 1)) (hq : pc + 1 = q) (k : V p l e R s m args below meth c D A nL cells slots Q q lv (.long (f i.toNatClampNeg) :: st) ws) : V p l e R s m args below meth c D A nL cells slots Q pc lv (.int i :: .ref a :: st) ws := by
  subst hq
  exact fun H locs ls hP hD hS hl => va_lald F.1 F.2.1 F.2.2.2.2.2.2.1 hP q0 t0 ha ht hin hd (k H locs ls hP hD hS hl)
theorem v_laldN (F : Fx p s m args c cc own D tys A nL fr lo R) (q0 t0 : Nat) {a : Nat} {cA : ClassId} {n j : Nat} {f : Nat → Int64} (ha : ws[q0]? = some (a, .inl (cA, n, .inr (.inl f)))) (ht : tys[t0]? = some (cA, .long)) (hj : j < n) (hn : n < 2 ^ 31) (hd : decode cc pc = .ok (.laload, 1)) (hq : pc + 1 = q) (k : V p l e R s m args below meth c D A nL cells slots Q q lv (.long (f j) :: st) ws) : V p l e R s m args below meth c D A nL cells slots Q pc lv (.int (nI j) :: .ref a :: st) ws := v_lald F q0 t0 ha ht (vp_in_nI hj hn) hd hq (by rw [nI_clamp (by omega)]; exact k)
theorem v_zald (F : Fx p s m args c cc own D tys A nL fr lo R) (q0 t0 : Nat) {a : Nat} {cA : ClassId} {n : Nat} {f : Nat → Int32} (ha : ws[q0]? = some (a, .inl (cA, n, .inl f))) (ht : tys[t0]? = some (cA, .boolean)) {i : Int32} (hin : vp_in i n) (hd : decode cc pc = .ok (.baload, 1)) (hq : pc + 1 = q) (k : V p l e R s m args below meth c D A nL cells slots Q q lv (.int (f i.toNatClampNeg) :: st) ws) : V p l e R s m args below meth c D A nL cells slots Q pc lv (.int i :: .ref a :: st) ws := by
  subst hq
  exact fun H locs ls hP hD hS hl => va_zald F.1 F.2.1 F.2.2.2.2.2.2.1 hP q0 t0 ha ht hin hd (k H locs ls hP hD hS hl)
theorem v_zaldN (F : Fx p s m args c cc own D tys A nL fr lo R) (q0 t0 : Nat) {a : Nat} {cA : ClassId} {n j : Nat} {f : Nat → Int32} (ha : ws[q0]? = some (a, .inl (cA, n, .inl f))) (ht : tys[t0]? = some (cA, .boolean)) (hj : j < n) (hn : n < 2 ^ 31) (hd : decode cc pc = .ok (.baload, 1)) (hq : pc + 1 = q) (k : V p l e R s m args below meth c D A nL cells slots Q q lv (.int (f j) :: st) ws) : V p l e R s m args below meth c D A nL cells slots Q pc lv (.int (nI j) :: .ref a :: st) ws := v_zald F q0 t0 ha ht (vp_in_nI hj hn) hd hq (by rw [nI_clamp (by omega)]; exact k)
theorem v_iast (F : Fx p s m args c cc own D tys A nL fr lo R) (q0 t0 : Nat) {a : Nat} {cA : ClassId} {n : Nat} {f : Nat → Int32} (ha : ws[q0]? = some (a, .inl (cA, n, .inl f))) (ht : tys[t0]? = some (cA, .int)) {i : Int32} {x : Int32} (hin : vp_in i n) (hd : decode cc pc = .ok (.iastore, 1)) (hq : pc + 1 = q) (k : V p l e R s m args below meth c D A nL cells slots Q q lv st (ws.set q0 (a, .inl (cA, n, .inl (upd f i.toNatClampNeg x))))) : V p l e R s m args below meth c D A nL cells slots Q pc lv (.int x :: .int i :: .ref a :: st) ws := by
  subst hq
  exact fun H locs ls hP hD hS hl => va_iast F.1 F.2.1 F.2.2.2.2.2.2.1 hP hD hS q0 t0 ha ht hin hd (fun H1 locs1 hP hD hS => k H1 locs1 ls hP hD hS hl)
theorem v_iastN (F : Fx p s m args c cc own D tys A nL fr lo R) (q0 t0 : Nat) {a : Nat} {cA : ClassId} {n j : Nat} {f : Nat → Int32} (ha : ws[q0]? = some (a, .inl (cA, n, .inl f))) (ht : tys[t0]? = some (cA, .int)) {x : Int32} (hj : j < n) (hn : n < 2 ^ 31) (hd : decode cc pc = .ok (.iastore, 1)) (hq : pc + 1 = q) (k : V p l e R s m args below meth c D A nL cells slots Q q lv st (ws.set q0 (a, .inl (cA, n, .inl (upd f j x))))) : V p l e R s m args below meth c D A nL cells slots Q pc lv (.int x :: .int (nI j) :: .ref a :: st) ws := v_iast F q0 t0 ha ht (vp_in_nI hj hn) hd hq (by rw [nI_clamp (by omega)]; exact k)
theorem v_last (F : Fx p s m args c cc own D tys A nL fr lo R) (q0 t0 : Nat) {a : Nat} {cA : ClassId} {n : Nat} {f : Nat → Int64} (ha : ws[q0]? = some (a, .inl (cA, n, .inr (.inl f)))) (ht : tys[t0]? = some (cA, .long)) {i : Int32} {x : Int64} (hin : vp_in i n) (hd : decode cc pc = .ok (.lastore, 1)) (hq : pc + 1 = q) (k : V p l e R s m args below meth c D A nL cells slots Q q lv st (ws.set q0 (a, .inl (cA, n, .inr (.inl (vp_updL f i.toNatClampNeg x)))))) : V p l e R s m args below meth c D A nL cells slots Q pc lv (.long x :: .int i :: .ref a :: st) ws := by
  subst hq
  exact fun H locs ls hP hD hS hl => va_last F.1 F.2.1 F.2.2.2.2.2.2.1 hP hD hS q0 t0 ha ht hin hd (fun H1 locs1 hP hD hS => k H1 locs1 ls hP hD hS hl)
theorem v_lastN (F : Fx p s m args c cc own D tys A nL fr lo R) (q0 t0 : Nat) {a : Nat} {cA : ClassId} {n j : Nat} {f : Nat → Int64} (ha : ws[q0]? = some (a, .inl (cA, n, .inr (.inl f)))) (ht : tys[t0]? = some (cA, .long)) {x : Int64} (hj : j < n) (hn : n < 2 ^ 31) (hd : decode cc pc = .ok (.lastore, 1)) (hq : pc + 1 = q) (k : V p l e R s m args below meth c D A nL cells slots Q q lv st (ws.set q0 (a, .inl (cA, n, .inr (.inl (vp_updL f j x)))))) : V p l e R s m args below meth c D A nL cells slots Q pc lv (.long x :: .int (nI j) :: .ref a :: st) ws := v_last F q0 t0 ha ht (vp_in_nI hj hn) hd hq (by rw [nI_clamp (by omega)]; exact k)
theorem v_zast (F : Fx p s m args c cc own D tys A nL fr lo R) (q0 t0 : Nat) {a : Nat} {cA : ClassId} {n : Nat} {f : Nat → Int32} (ha : ws[q0]? = some (a, .inl (cA, n, .inl f))) (ht : tys[t0]? = some (cA, .boolean)) {i : Int32} {x : Int32} (hin : vp_in i n) (hd : decode cc pc = .ok (.bastore, 1)) (hq : pc + 1 = q) (k : V p l e R s m args below meth c D A nL cells slots Q q lv st (ws.set q0 (a, .inl (cA, n, .inl (upd f i.toNatClampNeg (vp_nar .boolean x)))))) : V p l e R s m args below meth c D A nL cells slots Q pc lv (.int x :: .int i :: .ref a :: st) ws := by
  subst hq
  exact fun H locs ls hP hD hS hl => va_zast F.1 F.2.1 F.2.2.2.2.2.2.1 hP hD hS q0 t0 ha ht hin hd (fun H1 locs1 hP hD hS => k H1 locs1 ls hP hD hS hl)
theorem v_zastN (F : Fx p s m args c cc own D tys A nL fr lo R) (q0 t0 : Nat) {a : Nat} {cA : ClassId} {n j : Nat} {f : Nat → Int32} (ha : ws[q0]? = some (a, .inl (cA, n, .inl f))) (ht : tys[t0]? = some (cA, .boolean)) {x : Int32} (hx : vp_nar .boolean x = x) (hj : j < n) (hn : n < 2 ^ 31) (hd : decode cc pc = .ok (.bastore, 1)) (hq : pc + 1 = q) (k : V p l e R s m args below meth c D A nL cells slots Q q lv st (ws.set q0 (a, .inl (cA, n, .inl (upd f j x))))) : V p l e R s m args below meth c D A nL cells slots Q pc lv (.int x :: .int (nI j) :: .ref a :: st) ws := v_zast F q0 t0 ha ht (vp_in_nI hj hn) hd hq (by rw [nI_clamp (by omega), hx]; exact k)
theorem v_get (F : Fx p s m args c cc own D tys A nL fr lo R) {C : String} {T : u_T} {N ci index : Nat} (hin : ∀ w ∈ u_ws C T N, w ∈ ALL) (hc : vwCl[ci]? = some (C, T, N)) (k : Nat) (hk : k < N) (hlink : (Cond.fieldLink own index (T k).1 (T k).2.1 (T k).2.2.1) ∈ ALL) (hd : decode cc pc = .ok (.getfield index, 3)) (q0 : Nat) {a : Nat} {fs : List Value} (he : ws[q0]? = some (a, .inr (ci, fs))) {v : Value} (hv : fs[k]? = some v) (hq : pc + 3 = q) (kk : V p l e R s m args below meth c D A nL cells slots Q q lv (v :: st) ws) : V p l e R s m args below meth c D A nL cells slots Q pc lv (.ref a :: st) ws := by
  subst hq
  exact fun H locs ls hP hD hS hl => va_get F.1 F.2.1 F.2.2.2.2.1 hin F.2.2.2.1 F.2.2.2.2.2.2.1 hP q0 he hc k hk (F.2.2.2.2.1 _ hlink) (fun _ h => h) hv hd (kk H locs ls hP hD hS hl)
theorem v_put (F : Fx p s m args c cc own D tys A nL fr lo R) {C : String} {T : u_T} {N ci index : Nat} (hin : ∀ w ∈ u_ws C T N, w ∈ ALL) (hc : vwCl[ci]? = some (C, T, N)) (ty0 : Nat → FieldType) (hty : ∀ k, k < N → parseFieldDescriptor (T k).2.2.1 = some (ty0 k)) (hnm : ∀ a, a < N → ∀ b, b < N → a ≠ b → (T a).2.1 ≠ (T b).2.1) (k : Nat) (hk : k < N) (hlink : (Cond.fieldLink own index (T k).1 (T k).2.1 (T k).2.2.1) ∈ ALL) (hfin : (T k).2.2.2 = false) (hd : decode cc pc = .ok (.putfield index, 3)) (q0 : Nat) {a : Nat} {fs : List Value} (he : ws[q0]? = some (a, .inr (ci, fs))) {v : Value} (hn : narrow (ty0 k) v = v) (hfit : fits (ty0 k) v = true) (hl0 : k < fs.length) (hq : pc + 3 = q) (kk : V p l e R s m args below meth c D A nL cells slots Q q lv st (ws.set q0 (a, .inr (ci, fs.set k v)))) : V p l e R s m args below meth c D A nL cells slots Q pc lv (v :: .ref a :: st) ws := by
  subst hq
  exact fun H locs ls hP hD hS hl => va_put F.1 F.2.1 F.2.2.2.2.1 hin ty0 hty hnm F.2.2.2.1 F.2.2.2.2.2.2.1 hP hD hS q0 he hc k hk (F.2.2.2.2.1 _ hlink) (fun _ h => h) hfin (hty k hk) hn hfit hl0 hd (fun H1 locs1 hP hD hS => kk H1 locs1 ls hP hD hS hl)
theorem v_getN (F : Fx p s m args c cc own D tys A nL fr lo R) {host : String} {C : String} {T : u_T} {N ci index : Nat} (hin : ∀ w ∈ u_ws C T N, w ∈ ALL) (hc : vwCl[ci]? = some (C, T, N)) (k : Nat) (hk : k < N) (hlink : (Cond.fieldLinkNest own index (T k).1 (T k).2.1 (T k).2.2.1 host) ∈ lw_tbl) (hd : decode cc pc = .ok (.getfield index, 3)) (q0 : Nat) {a : Nat} {fs : List Value} (he : ws[q0]? = some (a, .inr (ci, fs))) {v : Value} (hv : fs[k]? = some v) (hq : pc + 3 = q) (kk : V p l e R s m args below meth c D A nL cells slots Q q lv (v :: st) ws) : V p l e R s m args below meth c D A nL cells slots Q pc lv (.ref a :: st) ws := by
  subst hq
  exact fun H locs ls hP hD hS hl => va_getN F.1 F.2.1 F.2.2.2.2.1 hin F.2.2.2.1 F.2.2.2.2.2.2.1 hP q0 he hc k hk (va_Nw.use rfl (F.2.2.2.2.2.1 _ hlink rfl)) (fun _ h => h) hv hd (kk H locs ls hP hD hS hl)
theorem v_putN (F : Fx p s m args c cc own D tys A nL fr lo R) {host : String} {C : String} {T : u_T} {N ci index : Nat} (hin : ∀ w ∈ u_ws C T N, w ∈ ALL) (hc : vwCl[ci]? = some (C, T, N)) (ty0 : Nat → FieldType) (hty : ∀ k, k < N → parseFieldDescriptor (T k).2.2.1 = some (ty0 k)) (hnm : ∀ a, a < N → ∀ b, b < N → a ≠ b → (T a).2.1 ≠ (T b).2.1) (k : Nat) (hk : k < N) (hlink : (Cond.fieldLinkNest own index (T k).1 (T k).2.1 (T k).2.2.1 host) ∈ lw_tbl) (hfin : (T k).2.2.2 = false) (hd : decode cc pc = .ok (.putfield index, 3)) (q0 : Nat) {a : Nat} {fs : List Value} (he : ws[q0]? = some (a, .inr (ci, fs))) {v : Value} (hn : narrow (ty0 k) v = v) (hfit : fits (ty0 k) v = true) (hl0 : k < fs.length) (hq : pc + 3 = q) (kk : V p l e R s m args below meth c D A nL cells slots Q q lv st (ws.set q0 (a, .inr (ci, fs.set k v)))) : V p l e R s m args below meth c D A nL cells slots Q pc lv (v :: .ref a :: st) ws := by
  subst hq
  exact fun H locs ls hP hD hS hl => va_putN F.1 F.2.1 F.2.2.2.2.1 hin ty0 hty hnm F.2.2.2.1 F.2.2.2.2.2.2.1 hP hD hS q0 he hc k hk (va_Nw.use rfl (F.2.2.2.2.2.1 _ hlink rfl)) (fun _ h => h) hfin (hty k hk) hn hfit hl0 hd (fun H1 locs1 hP hD hS => kk H1 locs1 ls hP hD hS hl)
theorem v_putF (F : Fx p s m args c cc own D tys A nL fr lo R) {C : String} {T : u_T} {N ci index : Nat} (hin : ∀ w ∈ u_ws C T N, w ∈ ALL) (hc : vwCl[ci]? = some (C, T, N)) (ty0 : Nat → FieldType) (hty : ∀ k, k < N → parseFieldDescriptor (T k).2.2.1 = some (ty0 k)) (hnm : ∀ a, a < N → ∀ b, b < N → a ≠ b → (T a).2.1 ≠ (T b).2.1) (k : Nat) (hk : k < N) (hlink : (Cond.fieldLink own index (T k).1 (T k).2.1 (T k).2.2.1) ∈ ALL) (hfin : (T k).2.2.2 = true) (hin2 : meth.name = "<init>") (hdecl : (T k).1 = own) (hd : decode cc pc = .ok (.putfield index, 3)) (q0 : Nat) {a : Nat} {fs : List Value} (he : ws[q0]? = some (a, .inr (ci, fs))) {v : Value} (hn : narrow (ty0 k) v = v) (hfit : fits (ty0 k) v = true) (hl0 : k < fs.length) (hq : pc + 3 = q) (kk : V p l e R s m args below meth c D A nL cells slots Q q lv st (ws.set q0 (a, .inr (ci, fs.set k v)))) : V p l e R s m args below meth c D A nL cells slots Q pc lv (v :: .ref a :: st) ws := by
  subst hq
  exact fun H locs ls hP hD hS hl => va_putF F.1 F.2.1 F.2.2.2.2.1 hin ty0 hty hnm F.2.2.2.1 F.2.2.2.2.2.2.1 hP hD hS q0 he hc k hk (F.2.2.2.2.1 _ hlink) (fun _ h => h) hfin hin2 hdecl (hty k hk) hn hfit hl0 hd (fun H1 locs1 hP hD hS => kk H1 locs1 ls hP hD hS hl)
theorem v_ldc2 (F : Fx p s m args c cc own D tys A nL fr lo R) {index : Nat} {v : Int64} (hw : Cond.constantLong own index v ∈ ALL) (hd : decode cc pc = .ok (.ldc2_w index, 3)) (hq : pc + 3 = q) (k : V p l e R s m args below meth c D A nL cells slots Q q lv (.long v :: st) ws) : V p l e R s m args below meth c D A nL cells slots Q pc lv st ws := by
  subst hq
  exact fun H locs ls hP hD hS hl => lv_ldc2 F.1 F.2.1 F.2.2.2.1 (F.2.2.2.2.1 _ hw) hd (k H locs ls hP hD hS hl)
theorem v_ldc (F : Fx p s m args c cc own D tys A nL fr lo R) {index : Nat} {v : Int32} (hw : Cond.constant own index v ∈ ALL) (hd : decode cc pc = .ok (.ldc index, 2)) (hq : pc + 2 = q) (k : V p l e R s m args below meth c D A nL cells slots Q q lv (.int v :: st) ws) : V p l e R s m args below meth c D A nL cells slots Q pc lv st ws := by
  subst hq
  exact fun H locs ls hP hD hS hl => lv_ldc F.1 F.2.1 F.2.2.2.1 (F.2.2.2.2.1 _ hw) hd (k H locs ls hP hD hS hl)
theorem v_ldcw (F : Fx p s m args c cc own D tys A nL fr lo R) {index : Nat} {v : Int32} (hw : Cond.constant own index v ∈ ALL) (hd : decode cc pc = .ok (.ldc_w index, 3)) (hq : pc + 3 = q) (k : V p l e R s m args below meth c D A nL cells slots Q q lv (.int v :: st) ws) : V p l e R s m args below meth c D A nL cells slots Q pc lv st ws := by
  subst hq
  exact fun H locs ls hP hD hS hl => lv_ldcw F.1 F.2.1 F.2.2.2.1 (F.2.2.2.2.1 _ hw) hd (k H locs ls hP hD hS hl)
theorem v_mmax (F : Fx p s m args c cc own D tys A nL fr lo R) {index : Nat} (h1 : Cond.methodLink own index Lib.Math.max.name ∈ ALL) (h2 : Cond.static Lib.Math.max.name ∈ ALL) (h3 : Cond.initialized "java/lang/Math" ∈ ALL) (h4 : Cond.code Lib.Math.max.name Lib.Math.max.code 2 (some .int) ∈ ALL) (hcs : cells ≤ R.cells ∧ slots ≤ R.slots) {x y : Int32} (hd : decode cc pc = .ok (.invokestatic index, 3)) (hf : 1 ≤ fr) (ho : (st.map fun v => v.category).sum + 13 ≤ lo) (hq : pc + 3 = q) (k : V p l e R s m args below meth c D A nL cells slots Q q lv (.int (if x < y then y else x) :: st) ws) : V p l e R s m args below meth c D A nL cells slots Q pc lv (.int y :: .int x :: st) ws := by
  subst hq
  exact fun H locs ls hP hD hS hl => va_mmax F.1 F.2.1 (F.2.2.1.trans hl.1.symm) F.2.2.2.1 (F.2.2.2.2.1 _ h1) (F.2.2.2.2.1 _ h2) (F.2.2.2.2.1 _ h3) (F.2.2.2.2.1 _ h4) (Nat.le_trans hf F.2.2.2.2.2.2.2.2.1) (Nat.le_trans ho F.2.2.2.2.2.2.2.2.2) hcs.1 hcs.2 hd (k H locs ls hP hD hS hl)
theorem v_mmin (F : Fx p s m args c cc own D tys A nL fr lo R) {index : Nat} (h1 : Cond.methodLink own index Lib.Math.min.name ∈ ALL) (h2 : Cond.static Lib.Math.min.name ∈ ALL) (h3 : Cond.initialized "java/lang/Math" ∈ ALL) (h4 : Cond.code Lib.Math.min.name Lib.Math.min.code 2 (some .int) ∈ ALL) (hcs : cells ≤ R.cells ∧ slots ≤ R.slots) {x y : Int32} (hd : decode cc pc = .ok (.invokestatic index, 3)) (hf : 1 ≤ fr) (ho : (st.map fun v => v.category).sum + 13 ≤ lo) (hq : pc + 3 = q) (k : V p l e R s m args below meth c D A nL cells slots Q q lv (.int (if y < x then y else x) :: st) ws) : V p l e R s m args below meth c D A nL cells slots Q pc lv (.int y :: .int x :: st) ws := by
  subst hq
  exact fun H locs ls hP hD hS hl => va_mmin F.1 F.2.1 (F.2.2.1.trans hl.1.symm) F.2.2.2.1 (F.2.2.2.2.1 _ h1) (F.2.2.2.2.1 _ h2) (F.2.2.2.2.1 _ h3) (F.2.2.2.2.1 _ h4) (Nat.le_trans hf F.2.2.2.2.2.2.2.2.1) (Nat.le_trans ho F.2.2.2.2.2.2.2.2.2) hcs.1 hcs.2 hd (k H locs ls hP hD hS hl)
theorem v_mabsl (F : Fx p s m args c cc own D tys A nL fr lo R) {index : Nat} (h1 : Cond.methodLink own index Lib.MathLoose.abs_long.x ∈ ALL) (h2 : Cond.static Lib.MathLoose.abs_long.x ∈ ALL) (h3 : Cond.initialized "java/lang/Math" ∈ ALL) (h4 : Cond.code Lib.MathLoose.abs_long.x Lib.MathLoose.abs_long.code 2 (some .long) ∈ ALL) (hcs : cells ≤ R.cells ∧ slots ≤ R.slots) {x : Int64} (hd : decode cc pc = .ok (.invokestatic index, 3)) (hf : 1 ≤ fr) (ho : (st.map fun v => v.category).sum + 13 ≤ lo) (hq : pc + 3 = q) (k : V p l e R s m args below meth c D A nL cells slots Q q lv (.long (if 0 < x then x else -x) :: st) ws) : V p l e R s m args below meth c D A nL cells slots Q pc lv (.long x :: st) ws := by
  subst hq
  exact fun H locs ls hP hD hS hl => va_mabs_long F.1 F.2.1 (F.2.2.1.trans hl.1.symm) F.2.2.2.1 (F.2.2.2.2.1 _ h1) (F.2.2.2.2.1 _ h2) (F.2.2.2.2.1 _ h3) (F.2.2.2.2.1 _ h4) (Nat.le_trans hf F.2.2.2.2.2.2.2.2.1) (Nat.le_trans ho F.2.2.2.2.2.2.2.2.2) hcs.1 hcs.2 hd (k H locs ls hP hD hS hl)

theorem w_join {H H1 : Heap} {w0 w1 : va_W} {isC : List Nat} (hP : va_P D vwCl ws H) (hD : va_D A ws) (hC : isC.map (fun i => ws[i]?) = w0.map some) (hn : isC.Nodup) (hlen : w0.length ≤ w1.length)
    (hk : ∀ q : Nat, q < H.size → ¬ va_A w0 H.size q → H1[q]? = H[q]?) (hF : ∀ q, va_A w0 H.size q → A q) (hP1 : va_P D vwCl w1 H1) (hD1 : va_D (va_A w0 H.size) w1) : va_P D vwCl (wset ws isC w1) H1 ∧ va_D A (wset ws isC w1) := by
  have hle : isC.length ≤ w1.length := by
    have h1 := congrArg List.length hC
    simp at h1
    omega
  have apart : ∀ (k : Nat) (q : Nat × va_E), k ∉ isC → ws[k]? = some q → q.1 < H.size ∧ ¬ va_A w0 H.size q.1 := by
    intro k q hki hq
    have hl := (hP k q hq).lt
    refine ⟨hl, fun h => ?_⟩
    rcases h with ⟨k2, e, h⟩ | h
    · have h1 : (isC.map (fun i => ws[i]?))[k2]? = some (some (q.1, e)) := by rw [hC, List.getElem?_map, h]; rfl
      rw [List.getElem?_map] at h1
      cases hi : isC[k2]? with
      | none => rw [hi] at h1; cases h1
      | some i =>
        rw [hi] at h1
        have h4 : ws[i]? = some (q.1, e) := Option.some.inj h1
        have hij := hD.1 k i q (q.1, e) hq h4 rfl
        subst hij
        exact hki (List.mem_of_getElem? hi)
    · omega
  have G := wset_get isC ws w1 hn hle
  refine ⟨fun k q hq => ?_, fun i j x y hx hy hxy => ?_, fun k q hq => ?_⟩
  · rcases G k q hq with ⟨j, h1, h2⟩ | ⟨h1, h2⟩ | ⟨j, h1, h2⟩
    · exact hP1 j q h2
    · obtain ⟨g1, g2⟩ := apart k q h1 h2
      exact (hP k q h2).kept (hk q.1 g1 g2)
    · exact hP1 _ q h2
  · rcases G i x hx with ⟨a, h1, h2⟩ | ⟨h1, h2⟩ | ⟨a, h1, h2⟩ <;> rcases G j y hy with ⟨b, g1, g2⟩ | ⟨g1, g2⟩ | ⟨b, g1, g2⟩
    · have := hD1.1 a b x y h2 g2 hxy
      subst this
      exact Option.some.inj (h1.symm.trans g1)
    · exact absurd (hxy ▸ hD1.2 a x h2) (apart j y g1 g2).2
    · have := hD1.1 a _ x y h2 g2 hxy
      have hb : a < isC.length := (List.getElem?_eq_some_iff.mp h1).1
      omega
    · exact absurd (hxy.symm ▸ hD1.2 b y g2) (apart i x h1 h2).2
    · exact hD.1 i j x y h2 g2 hxy
    · exact absurd (hxy.symm ▸ hD1.2 _ y g2) (apart i x h1 h2).2
    · have := hD1.1 _ b x y h2 g2 hxy
      have hb : b < isC.length := (List.getElem?_eq_some_iff.mp g1).1
      omega
    · exact absurd (hxy ▸ hD1.2 _ x h2) (apart j y g1 g2).2
    · have := hD1.1 _ _ x y h2 g2 hxy
      omega
  · rcases G k q hq with ⟨j, h1, h2⟩ | ⟨h1, h2⟩ | ⟨j, h1, h2⟩
    · exact hF _ (hD1.2 j q h2)
    · exact hD.2 k q h2
    · exact hF _ (hD1.2 _ q h2)
theorem v_ret0 {H : Heap} {locs : List Loc} {ls : Array Slot} (hP : va_P D vwCl ws H) (hD : va_D A ws) (hS : va_S A s.heap H locs) (hA : ∀ q, s.heap.size ≤ q → A q) {isC : List Nat} {w0 : va_W} (hC : isC.map (fun i => ws[i]?) = w0.map some) (hn : isC.Nodup) {a : Array Value} {st0 : List Value} {mc ms : Nat} {Q' : Option Value → va_W → Prop}
    (hr : va_Run p l e R s m args below meth c H locs cells slots mc ms (F0 m pc ls st0) rest (QW D w0 H.size Q' a) (va_A w0 H.size))
    (kk : ∀ (r : Option Value) (w1 : va_W), Q' r w1 → ∀ (H1 : Heap) (locs1 : List Loc), va_P D vwCl (wset ws isC w1) H1 → va_D A (wset ws isC w1) → va_S A s.heap H1 locs1 → W p l e R s m args below meth c H1 locs1 (cells + mc) (slots + ms) Q (F0 m (pc + 3) ls (r.toList ++ rest))) : W p l e R s m args below meth c H locs cells slots Q (F0 m pc ls st0) := by
  have hf := va_free hD hS hA isC hC
  intro T hT X
  obtain ⟨v, st₀, t, T', L, h0, X', hL, e1, e2, ⟨⟨r, w1, hv, hq, hP1, hD1, hlen⟩, hz, hk⟩, st⟩ := hr T hT X
  cases hv
  rw [h0] at hz hk
  obtain ⟨hPn, hDn⟩ := w_join hP hD hC hn hlen hk hf hP1 hD1
  obtain ⟨t2, a1, b1⟩ := kk v w1 hq T'.heap (locs ++ L) (by rw [e1]; exact hPn) hDn
    ⟨Nat.le_trans hS.1 (by rw [e1]; exact hz), fun q h1 h2 => by rw [e1, hk q (Nat.lt_of_lt_of_le h1 hS.1) (fun z => h2 (hf q z))]; exact hS.2.1 q h1 h2, fun q hq => by
      rcases List.mem_append.mp hq with h | h
      · exact hS.2.2 q h
      · exact hf _ (hL q h)⟩ T' rfl X'
  exact ⟨t2, st t2 a1, b1⟩
theorem pw_blind {av : List Value} {w0 : va_W} {sz : Nat} : FrameBlind (PW D tys av w0 sz) := by
  intro a U g mk q
  obtain ⟨h1, h2, h3, h4, h5, h6⟩ := q
  exact ⟨h1, h2, h3, va_K.moved (u := U) (U := U.calling g mk a) (Vm.Alike.refl U.vm) h4, h5, NW.same (u := U) (U := U.calling g mk a) rfl h6⟩
theorem pw_at {H : Heap} {av : List Value} {isC : List Nat} {w0 : va_W} (hK : va_K D vwCl tys s) (hN : NW s) (hP : va_P D vwCl ws H) (hD : va_D A ws) (hC : isC.map (fun i => ws[i]?) = w0.map some) (hn : va_nd isC = true) : ∀ U : State, U.heap = H → s.WarmedH U.vm → PW D tys av w0 H.size av.toArray U := by
  intro U hU hW
  have hP0 : va_P D vwCl w0 H := by
    intro k q hk
    have h1 : (isC.map (fun i => ws[i]?))[k]? = some (some q) := by rw [hC, List.getElem?_map, hk]; rfl
    rw [List.getElem?_map] at h1
    cases hi : isC[k]? with
    | none => rw [hi] at h1; cases h1
    | some i => rw [hi] at h1; exact hP i q (Option.some.inj h1)
  exact ⟨rfl, by rw [hU], by rw [hU]; exact hP0, va_K.moved hW.alike hK, (hD.sub isC hn hC).weaken (fun _ _ _ _ => trivial), NW.warm hW hN⟩
theorem nodup_of {l : List Nat} (h : decide l.Nodup = true) : l.Nodup := of_decide_eq_true h

theorem v_callV (F : Fx p s m args c cc own D tys A nL fr lo R) {y : MethodName} {cc' : ByteArray} {maxL fr' lo' mc ms np : Nat} {ret : Option FieldType} {av : List Value} {w0 : va_W} {Q' : Option Value → va_W → Prop} {index : Nat} (k1 : Cond.methodLink own index y ∈ ALL) (k2 : Cond.instanceMethod y ∈ ALL) (k3 : Cond.selects y.cls y y ∈ ALL) (k4 : Cond.initialized y.cls ∈ ALL) (k5 : Cond.code y cc' maxL ret ∈ ALL) (hy : y.cls ≠ "java/lang/invoke/MethodHandle" ∧ y.cls ≠ "java/lang/invoke/VarHandle" ∧ (parseMethodDescriptor y.desc).map (fun d => d.parameters.length) = some np) (hM : Ct l D tys y cc' maxL ret fr' lo' mc ms av w0 Q') (hcs : cells + mc ≤ R.cells ∧ slots + ms ≤ R.slots) (hfr : fr' + 1 ≤ fr) (hlo : 8 + (maxL + 11) + lo' ≤ lo) (q0 : Nat) {b ci : Nat} {As : List Value} {cq : vw_C} {fs : List Value} (hav : av = .ref b :: As) (hnp : As.length = np) (he : ws[q0]? = some (b, .inr (ci, fs))) (hc : vwCl[ci]? = some cq) (hcn : cq.1 = y.cls) (isC : List Nat) (hC : isC.map (fun i => ws[i]?) = w0.map some) (hn : decide isC.Nodup = true) (hn2 : va_nd isC = true) (hst : st = As.reverse ++ .ref b :: rest) (hW : (rest.map fun v => v.category).sum ≤ 8) (hd : decode cc pc = .ok (.invokevirtual index, 3)) (hq : pc + 3 = q) (kk : ∀ (r : Option Value) (w1 : va_W), Q' r w1 → V p l e R s m args below meth c D A nL (cells + mc) (slots + ms) Q q lv (r.toList ++ rest) (wset ws isC w1)) : V p l e R s m args below meth c D A nL cells slots Q pc lv st ws := by
  subst hq
  subst hav
  intro H locs ls hP hD hS hl
  refine v_ret0 hP hD hS F.2.2.2.2.2.2.2.1 hC (nodup_of hn) (va_runV (C := y.cls) (As := As) (b := b) ⟨F.1, F.2.1, F.2.2.1, F.2.2.2.1, F.2.2.2.2.1⟩ (hM H.size) ⟨callB_of np F.2.2.2.2.1 (good_ALL k5) rfl rfl rfl (F.2.2.2.2.1 _ k4) (F.2.2.2.2.1 _ k1) hy ⟨Nat.le_trans hfr F.2.2.2.2.2.2.2.2.1, Nat.le_trans hlo F.2.2.2.2.2.2.2.2.2⟩, F.2.2.2.2.1 _ k2, F.2.2.2.2.1 _ k3⟩ ⟨pw_blind, ?_, pw_at F.2.2.2.2.2.2.1 F.2.2.2.2.2.1 hP hD hC hn2⟩ rfl hnp hl.1 hst (lv_room hW) hd hcs) (fun r w1 hq H1 locs1 hP hD hS => kk r w1 hq H1 locs1 ls hP hD hS hl)
  rw [← hcn]
  exact va_recv F.2.2.2.2.2.2.1 hP hc he
theorem v_callVN (F : Fx p s m args c cc own D tys A nL fr lo R) {y : MethodName} {cc' : ByteArray} {maxL fr' lo' mc ms np : Nat} {ret : Option FieldType} {av : List Value} {w0 : va_W} {Q' : Option Value → va_W → Prop} {index : Nat} {host : String} (k1 : Cond.methodLinkNest own index y host ∈ lw_tbl) (k2 : Cond.instanceMethod y ∈ ALL) (k3 : Cond.selects y.cls y y ∈ ALL) (k4 : Cond.initialized y.cls ∈ ALL) (k5 : Cond.code y cc' maxL ret ∈ ALL) (hy : y.cls ≠ "java/lang/invoke/MethodHandle" ∧ y.cls ≠ "java/lang/invoke/VarHandle" ∧ (parseMethodDescriptor y.desc).map (fun d => d.parameters.length) = some np) (hM : Ct l D tys y cc' maxL ret fr' lo' mc ms av w0 Q') (hcs : cells + mc ≤ R.cells ∧ slots + ms ≤ R.slots) (hfr : fr' + 1 ≤ fr) (hlo : 8 + (maxL + 11) + lo' ≤ lo) (q0 : Nat) {b ci : Nat} {As : List Value} {cq : vw_C} {fs : List Value} (hav : av = .ref b :: As) (hnp : As.length = np) (he : ws[q0]? = some (b, .inr (ci, fs))) (hc : vwCl[ci]? = some cq) (hcn : cq.1 = y.cls) (isC : List Nat) (hC : isC.map (fun i => ws[i]?) = w0.map some) (hn : decide isC.Nodup = true) (hn2 : va_nd isC = true) (hst : st = As.reverse ++ .ref b :: rest) (hW : (rest.map fun v => v.category).sum ≤ 8) (hd : decode cc pc = .ok (.invokevirtual index, 3)) (hq : pc + 3 = q) (kk : ∀ (r : Option Value) (w1 : va_W), Q' r w1 → V p l e R s m args below meth c D A nL (cells + mc) (slots + ms) Q q lv (r.toList ++ rest) (wset ws isC w1)) : V p l e R s m args below meth c D A nL cells slots Q pc lv st ws := by
  subst hq
  subst hav
  intro H locs ls hP hD hS hl
  refine v_ret0 hP hD hS F.2.2.2.2.2.2.2.1 hC (nodup_of hn) (va_runVN (C := y.cls) (As := As) (b := b) ⟨F.1, F.2.1, F.2.2.1, F.2.2.2.1, F.2.2.2.2.1⟩ (hM H.size) ⟨va_cnB np F.2.2.2.2.1 (good_ALL k5) rfl rfl rfl (F.2.2.2.2.2.1 _ k1 rfl) (F.2.2.2.2.1 _ k4) hy ⟨Nat.le_trans hfr F.2.2.2.2.2.2.2.2.1, Nat.le_trans hlo F.2.2.2.2.2.2.2.2.2⟩, F.2.2.2.2.1 _ k2, F.2.2.2.2.1 _ k3⟩ ⟨pw_blind, ?_, pw_at F.2.2.2.2.2.2.1 F.2.2.2.2.2.1 hP hD hC hn2⟩ rfl hnp hl.1 hst (lv_room hW) hd hcs) (fun r w1 hq H1 locs1 hP hD hS => kk r w1 hq H1 locs1 ls hP hD hS hl)
  rw [← hcn]
  exact va_recv F.2.2.2.2.2.2.1 hP hc he
theorem v_callS (F : Fx p s m args c cc own D tys A nL fr lo R) {y : MethodName} {cc' : ByteArray} {maxL fr' lo' mc ms np : Nat} {ret : Option FieldType} {av : List Value} {w0 : va_W} {Q' : Option Value → va_W → Prop} {index : Nat} (k1 : Cond.methodLink own index y ∈ ALL) (k2 : Cond.static y ∈ ALL) (k4 : Cond.initialized y.cls ∈ ALL) (k5 : Cond.code y cc' maxL ret ∈ ALL) (hy : y.cls ≠ "java/lang/invoke/MethodHandle" ∧ y.cls ≠ "java/lang/invoke/VarHandle" ∧ (parseMethodDescriptor y.desc).map (fun d => d.parameters.length) = some np) (hM : Ct l D tys y cc' maxL ret fr' lo' mc ms av w0 Q') (hcs : cells + mc ≤ R.cells ∧ slots + ms ≤ R.slots) (hfr : fr' + 1 ≤ fr) (hlo : 8 + (maxL + 11) + lo' ≤ lo) (hnp : av.length = np) (isC : List Nat) (hC : isC.map (fun i => ws[i]?) = w0.map some) (hn : decide isC.Nodup = true) (hn2 : va_nd isC = true) (hst : st = av.reverse ++ rest) (hW : (rest.map fun v => v.category).sum ≤ 8) (hd : decode cc pc = .ok (.invokestatic index, 3)) (hq : pc + 3 = q) (kk : ∀ (r : Option Value) (w1 : va_W), Q' r w1 → V p l e R s m args below meth c D A nL (cells + mc) (slots + ms) Q q lv (r.toList ++ rest) (wset ws isC w1)) : V p l e R s m args below meth c D A nL cells slots Q pc lv st ws := by
  subst hq
  intro H locs ls hP hD hS hl
  exact v_ret0 hP hD hS F.2.2.2.2.2.2.2.1 hC (nodup_of hn) (va_runS (As := av) ⟨F.1, F.2.1, F.2.2.1, F.2.2.2.1, F.2.2.2.2.1⟩ (hM H.size) ⟨callB_of np F.2.2.2.2.1 (good_ALL k5) rfl rfl rfl (F.2.2.2.2.1 _ k4) (F.2.2.2.2.1 _ k1) hy ⟨Nat.le_trans hfr F.2.2.2.2.2.2.2.2.1, Nat.le_trans hlo F.2.2.2.2.2.2.2.2.2⟩, F.2.2.2.2.1 _ k2⟩ ⟨pw_blind, pw_at F.2.2.2.2.2.2.1 F.2.2.2.2.2.1 hP hD hC hn2⟩ rfl hnp hl.1 hst (lv_room hW) hd hcs) (fun r w1 hq H1 locs1 hP hD hS => kk r w1 hq H1 locs1 ls hP hD hS hl)
theorem v_callI (F : Fx p s m args c cc own D tys A nL fr lo R) {y : MethodName} {cc' : ByteArray} {maxL fr' lo' mc ms np : Nat} {av : List Value} {w0 : va_W} {Q' : Option Value → va_W → Prop} {index : Nat} (k1 : Cond.methodLink own index y ∈ ALL) (k2 : Cond.instanceMethod y ∈ ALL) (k4 : Cond.initialized y.cls ∈ ALL) (k5 : Cond.code y cc' maxL none ∈ ALL) (hyn : y.name = "<init>") (hy : y.cls ≠ "java/lang/invoke/MethodHandle" ∧ y.cls ≠ "java/lang/invoke/VarHandle" ∧ (parseMethodDescriptor y.desc).map (fun d => d.parameters.length) = some np) (hM : Ct l D tys y cc' maxL none fr' lo' mc ms av w0 Q') (hcs : cells + mc ≤ R.cells ∧ slots + ms ≤ R.slots) (hfr : fr' + 1 ≤ fr) (hlo : 8 + (maxL + 11) + lo' ≤ lo) {b : Nat} {As : List Value} (hav : av = .ref b :: As) (hnp : As.length = np) (isC : List Nat) (hC : isC.map (fun i => ws[i]?) = w0.map some) (hn : decide isC.Nodup = true) (hn2 : va_nd isC = true) (hst : st = As.reverse ++ .ref b :: rest) (hW : (rest.map fun v => v.category).sum ≤ 8) (hd : decode cc pc = .ok (.invokespecial index, 3)) (hq : pc + 3 = q) (kk : ∀ (r : Option Value) (w1 : va_W), Q' r w1 → V p l e R s m args below meth c D A nL (cells + mc) (slots + ms) Q q lv (r.toList ++ rest) (wset ws isC w1)) : V p l e R s m args below meth c D A nL cells slots Q pc lv st ws := by
  subst hq
  subst hav
  intro H locs ls hP hD hS hl
  exact v_ret0 hP hD hS F.2.2.2.2.2.2.2.1 hC (nodup_of hn) (va_runI (As := As) (b := b) ⟨F.1, F.2.1, F.2.2.1, F.2.2.2.1, F.2.2.2.2.1⟩ (hM H.size) ⟨callB_of np F.2.2.2.2.1 (good_ALL k5) rfl rfl rfl (F.2.2.2.2.1 _ k4) (F.2.2.2.2.1 _ k1) hy ⟨Nat.le_trans hfr F.2.2.2.2.2.2.2.2.1, Nat.le_trans hlo F.2.2.2.2.2.2.2.2.2⟩, hyn, F.2.2.2.2.1 _ k2⟩ ⟨pw_blind, pw_at F.2.2.2.2.2.2.1 F.2.2.2.2.2.1 hP hD hC hn2⟩ rfl hnp hl.1 hst (lv_room hW) hd hcs) (fun r w1 hq H1 locs1 hP hD hS => kk r w1 hq H1 locs1 ls hP hD hS hl)
theorem v_callIN (F : Fx p s m args c cc own D tys A nL fr lo R) {y : MethodName} {cc' : ByteArray} {maxL fr' lo' mc ms np : Nat} {av : List Value} {w0 : va_W} {Q' : Option Value → va_W → Prop} {index : Nat} {host : String} (k1 : Cond.methodLinkNest own index y host ∈ lw_tbl) (k2 : Cond.instanceMethod y ∈ ALL) (k4 : Cond.initialized y.cls ∈ ALL) (k5 : Cond.code y cc' maxL none ∈ ALL) (hyn : y.name = "<init>") (hy : y.cls ≠ "java/lang/invoke/MethodHandle" ∧ y.cls ≠ "java/lang/invoke/VarHandle" ∧ (parseMethodDescriptor y.desc).map (fun d => d.parameters.length) = some np) (hM : Ct l D tys y cc' maxL none fr' lo' mc ms av w0 Q') (hcs : cells + mc ≤ R.cells ∧ slots + ms ≤ R.slots) (hfr : fr' + 1 ≤ fr) (hlo : 8 + (maxL + 11) + lo' ≤ lo) {b : Nat} {As : List Value} (hav : av = .ref b :: As) (hnp : As.length = np) (isC : List Nat) (hC : isC.map (fun i => ws[i]?) = w0.map some) (hn : decide isC.Nodup = true) (hn2 : va_nd isC = true) (hst : st = As.reverse ++ .ref b :: rest) (hW : (rest.map fun v => v.category).sum ≤ 8) (hd : decode cc pc = .ok (.invokespecial index, 3)) (hq : pc + 3 = q) (kk : ∀ (r : Option Value) (w1 : va_W), Q' r w1 → V p l e R s m args below meth c D A nL (cells + mc) (slots + ms) Q q lv (r.toList ++ rest) (wset ws isC w1)) : V p l e R s m args below meth c D A nL cells slots Q pc lv st ws := by
  subst hq
  subst hav
  intro H locs ls hP hD hS hl
  exact v_ret0 hP hD hS F.2.2.2.2.2.2.2.1 hC (nodup_of hn) (va_runIN (As := As) (b := b) ⟨F.1, F.2.1, F.2.2.1, F.2.2.2.1, F.2.2.2.2.1⟩ (hM H.size) ⟨va_cnB np F.2.2.2.2.1 (good_ALL k5) rfl rfl rfl (F.2.2.2.2.2.1 _ k1 rfl) (F.2.2.2.2.1 _ k4) hy ⟨Nat.le_trans hfr F.2.2.2.2.2.2.2.2.1, Nat.le_trans hlo F.2.2.2.2.2.2.2.2.2⟩, hyn, F.2.2.2.2.1 _ k2⟩ ⟨pw_blind, pw_at F.2.2.2.2.2.2.1 F.2.2.2.2.2.1 hP hD hC hn2⟩ rfl hnp hl.1 hst (lv_room hW) hd hcs) (fun r w1 hq H1 locs1 hP hD hS => kk r w1 hq H1 locs1 ls hP hD hS hl)
theorem Ct.ofI {ty : FieldType} {y : MethodName} {cc : ByteArray} {maxL fr lo mc ms : Nat} {av : List Value} {w0 : va_W} {Q' : Option Value → va_W → Prop} (hy : plainName y.cls = true) (hlen : (lg_sl av).length ≤ maxL)
    (body : ∀ (p : Program) (e : Env) (s : State) (m : MethodId) (args : Array Value) (below : List Frame) (meth : Method) (c : Code) (A : Nat → Prop) (R : Room) (Q : State → Prop), Fx p s m args c cc y.cls D tys A maxL fr lo R → meth.name = y.name → (mc ≤ R.cells ∧ ms ≤ R.slots) →
      (∀ {v : Int32}, ∀ {pc : Nat} {lv : List (Nat × Value)} {w : va_W} {k n : Nat}, (hnv : narrow ty (.int v) = .int v) → decode cc pc = .ok (.ireturn, 1) → k ≤ mc → n ≤ ms → (Q' (some (.int v)) w ∧ w0.length ≤ w.length) → V p l e R s m args below meth c D A maxL k n Q pc lv [.int v] w) →
      V p l e R s m args below meth c D A maxL 0 0 Q 0 (lv_args 0 av) [] w0) : Ct l D tys y cc maxL (some ty) fr lo mc ms av w0 Q' := by
  intro sz
  refine Met.ofW (cc := cc) (maxL := maxL) (ret := (some ty)) hy rfl ?_
  intro p e s m args below meth c s₁ B hml hv
  obtain ⟨rfl, hsz, hP, hK, hD0, hN⟩ := hv
  have h1 := B.exec
  have h2 := B.bytes
  have hr := B.returns
  have hts := atoms_spec (ws := .code y cc maxL (some ty) :: ALL) B.pre
  have hown : s.vm.findClass y.cls = some m.cls := findClass_of_methodNamed B.named
  have hlocks := B.notSynchronized
  subst hsz
  have hD := hD0.self (sz := s.heap.size)
  have hS : va_S (va_A w0 s.heap.size) s.heap s.heap [] := va_S.rf
  have hl := lv_entry av (n := maxL) hlen
  rw [lg_entry_eq]
  refine body p e s m _ below meth c (va_A w0 s.heap.size) ({ frames := fr, cells := mc, slots := ms, locals := lo }) _ ⟨h1, h2, hml, hown, fun w hw => hts w (List.mem_cons_of_mem _ hw), hN, hK, fun q h => Or.inr h, Nat.le_refl _, Nat.le_refl _⟩ (name_of_methodNamed B.named B.method).1 ⟨Nat.le_refl _, Nat.le_refl _⟩ ?_ s.heap [] _ hP hD hS hl
  intro v pc lv w k n hnv hdg hk hn hq H locs ls hP hD hS hl
  refine W.widen hk hn ?_
  exact W.zret (ty := ty) h1 h2 hr hnv (fun t ht hW => ⟨⟨_, w, rfl, hq.1, by rw [ht]; exact hP, hD, hq.2⟩, hS.F ht⟩) hS.2.2 hdg
theorem Ct.ofL {y : MethodName} {cc : ByteArray} {maxL fr lo mc ms : Nat} {av : List Value} {w0 : va_W} {Q' : Option Value → va_W → Prop} (hy : plainName y.cls = true) (hlen : (lg_sl av).length ≤ maxL)
    (body : ∀ (p : Program) (e : Env) (s : State) (m : MethodId) (args : Array Value) (below : List Frame) (meth : Method) (c : Code) (A : Nat → Prop) (R : Room) (Q : State → Prop), Fx p s m args c cc y.cls D tys A maxL fr lo R → meth.name = y.name → (mc ≤ R.cells ∧ ms ≤ R.slots) →
      (∀ {v : Int64}, ∀ {pc : Nat} {lv : List (Nat × Value)} {w : va_W} {k n : Nat}, decode cc pc = .ok (.lreturn, 1) → k ≤ mc → n ≤ ms → (Q' (some (.long v)) w ∧ w0.length ≤ w.length) → V p l e R s m args below meth c D A maxL k n Q pc lv [.long v] w) →
      V p l e R s m args below meth c D A maxL 0 0 Q 0 (lv_args 0 av) [] w0) : Ct l D tys y cc maxL (some .long) fr lo mc ms av w0 Q' := by
  intro sz
  refine Met.ofW (cc := cc) (maxL := maxL) (ret := (some .long)) hy rfl ?_
  intro p e s m args below meth c s₁ B hml hv
  obtain ⟨rfl, hsz, hP, hK, hD0, hN⟩ := hv
  have h1 := B.exec
  have h2 := B.bytes
  have hr := B.returns
  have hts := atoms_spec (ws := .code y cc maxL (some .long) :: ALL) B.pre
  have hown : s.vm.findClass y.cls = some m.cls := findClass_of_methodNamed B.named
  have hlocks := B.notSynchronized
  subst hsz
  have hD := hD0.self (sz := s.heap.size)
  have hS : va_S (va_A w0 s.heap.size) s.heap s.heap [] := va_S.rf
  have hl := lv_entry av (n := maxL) hlen
  rw [lg_entry_eq]
  refine body p e s m _ below meth c (va_A w0 s.heap.size) ({ frames := fr, cells := mc, slots := ms, locals := lo }) _ ⟨h1, h2, hml, hown, fun w hw => hts w (List.mem_cons_of_mem _ hw), hN, hK, fun q h => Or.inr h, Nat.le_refl _, Nat.le_refl _⟩ (name_of_methodNamed B.named B.method).1 ⟨Nat.le_refl _, Nat.le_refl _⟩ ?_ s.heap [] _ hP hD hS hl
  intro v pc lv w k n hdg hk hn hq H locs ls hP hD hS hl
  refine W.widen hk hn ?_
  exact W.lret h1 h2 hr (fun t ht hW => ⟨⟨_, w, rfl, hq.1, by rw [ht]; exact hP, hD, hq.2⟩, hS.F ht⟩) hS.2.2 hdg
theorem Ct.ofV {y : MethodName} {cc : ByteArray} {maxL fr lo mc ms : Nat} {av : List Value} {w0 : va_W} {Q' : Option Value → va_W → Prop} (hy : plainName y.cls = true) (hlen : (lg_sl av).length ≤ maxL)
    (body : ∀ (p : Program) (e : Env) (s : State) (m : MethodId) (args : Array Value) (below : List Frame) (meth : Method) (c : Code) (A : Nat → Prop) (R : Room) (Q : State → Prop), Fx p s m args c cc y.cls D tys A maxL fr lo R → meth.name = y.name → (mc ≤ R.cells ∧ ms ≤ R.slots) →
      (∀ {pc : Nat} {lv : List (Nat × Value)} {w : va_W} {k n : Nat}, decode cc pc = .ok (.return_, 1) → k ≤ mc → n ≤ ms → (Q' none w ∧ w0.length ≤ w.length) → V p l e R s m args below meth c D A maxL k n Q pc lv [] w) →
      V p l e R s m args below meth c D A maxL 0 0 Q 0 (lv_args 0 av) [] w0) : Ct l D tys y cc maxL none fr lo mc ms av w0 Q' := by
  intro sz
  refine Met.ofW (cc := cc) (maxL := maxL) (ret := none) hy rfl ?_
  intro p e s m args below meth c s₁ B hml hv
  obtain ⟨rfl, hsz, hP, hK, hD0, hN⟩ := hv
  have h1 := B.exec
  have h2 := B.bytes
  have hr := B.returns
  have hts := atoms_spec (ws := .code y cc maxL none :: ALL) B.pre
  have hown : s.vm.findClass y.cls = some m.cls := findClass_of_methodNamed B.named
  have hlocks := B.notSynchronized
  subst hsz
  have hD := hD0.self (sz := s.heap.size)
  have hS : va_S (va_A w0 s.heap.size) s.heap s.heap [] := va_S.rf
  have hl := lv_entry av (n := maxL) hlen
  rw [lg_entry_eq]
  refine body p e s m _ below meth c (va_A w0 s.heap.size) ({ frames := fr, cells := mc, slots := ms, locals := lo }) _ ⟨h1, h2, hml, hown, fun w hw => hts w (List.mem_cons_of_mem _ hw), hN, hK, fun q h => Or.inr h, Nat.le_refl _, Nat.le_refl _⟩ (name_of_methodNamed B.named B.method).1 ⟨Nat.le_refl _, Nat.le_refl _⟩ ?_ s.heap [] _ hP hD hS hl
  intro pc lv w k n hdg hk hn hq H locs ls hP hD hS hl
  refine W.widen hk hn ?_
  exact W.vret h1 h2 hr (fun t ht hW => ⟨⟨_, w, rfl, hq.1, by rw [ht]; exact hP, hD, hq.2⟩, hS.F ht⟩) hS.2.2 hdg
--GEN4
end VS
end
section
theorem iw_X0 : ∀ w ∈ u_ws RX0 TX0 11, w ∈ ALL := fun w h => List.mem_filter.mpr ⟨(by decide +kernel : ∀ w ∈ u_ws RX0 TX0 11, w ∈ lw_tbl) w h, List.all_eq_true.mp (by decide +kernel : (u_ws RX0 TX0 11).all goodWord = true) w h⟩
theorem iw_X1 : ∀ w ∈ u_ws RX1 TX1 5, w ∈ ALL := fun w h => List.mem_filter.mpr ⟨(by decide +kernel : ∀ w ∈ u_ws RX1 TX1 5, w ∈ lw_tbl) w h, List.all_eq_true.mp (by decide +kernel : (u_ws RX1 TX1 5).all goodWord = true) w h⟩
theorem iw_X2 : ∀ w ∈ u_ws RX2 TX2 5, w ∈ ALL := fun w h => List.mem_filter.mpr ⟨(by decide +kernel : ∀ w ∈ u_ws RX2 TX2 5, w ∈ lw_tbl) w h, List.all_eq_true.mp (by decide +kernel : (u_ws RX2 TX2 5).all goodWord = true) w h⟩
theorem iw_X3 : ∀ w ∈ u_ws RX3 TX3 3, w ∈ ALL := fun w h => List.mem_filter.mpr ⟨(by decide +kernel : ∀ w ∈ u_ws RX3 TX3 3, w ∈ lw_tbl) w h, List.all_eq_true.mp (by decide +kernel : (u_ws RX3 TX3 3).all goodWord = true) w h⟩
theorem iw_X4 : ∀ w ∈ u_ws RX4 TX4 4, w ∈ ALL := fun w h => List.mem_filter.mpr ⟨(by decide +kernel : ∀ w ∈ u_ws RX4 TX4 4, w ∈ lw_tbl) w h, List.all_eq_true.mp (by decide +kernel : (u_ws RX4 TX4 4).all goodWord = true) w h⟩
theorem iw_X5 : ∀ w ∈ u_ws RX5 TX5 6, w ∈ ALL := fun w h => List.mem_filter.mpr ⟨(by decide +kernel : ∀ w ∈ u_ws RX5 TX5 6, w ∈ lw_tbl) w h, List.all_eq_true.mp (by decide +kernel : (u_ws RX5 TX5 6).all goodWord = true) w h⟩
theorem iw_X6 : ∀ w ∈ u_ws RX6 TX6 3, w ∈ ALL := fun w h => List.mem_filter.mpr ⟨(by decide +kernel : ∀ w ∈ u_ws RX6 TX6 3, w ∈ lw_tbl) w h, List.all_eq_true.mp (by decide +kernel : (u_ws RX6 TX6 3).all goodWord = true) w h⟩
theorem iw_X7 : ∀ w ∈ u_ws RX7 TX7 8, w ∈ ALL := fun w h => List.mem_filter.mpr ⟨(by decide +kernel : ∀ w ∈ u_ws RX7 TX7 8, w ∈ lw_tbl) w h, List.all_eq_true.mp (by decide +kernel : (u_ws RX7 TX7 8).all goodWord = true) w h⟩
theorem iw_X8 : ∀ w ∈ u_ws RX8 TX8 23, w ∈ ALL := fun w h => List.mem_filter.mpr ⟨(by decide +kernel : ∀ w ∈ u_ws RX8 TX8 23, w ∈ lw_tbl) w h, List.all_eq_true.mp (by decide +kernel : (u_ws RX8 TX8 23).all goodWord = true) w h⟩
section LK
variable {p : Program} {l : Launch} {e : Env} {R : Room} {s : State} {m : MethodId} {args : Array Value} {below : List Frame} {meth : Method} {c : Code} {D : va_G} {A : Nat → Prop} {nL cells slots : Nat} {Q : State → Prop}
variable {cc : ByteArray} {tys : List (ClassId × FieldType)} {fr lo : Nat} {pc q n : Nat} {lv : List (Nat × Value)} {st : List Value} {ws : va_W}
theorem gt_X0_7 (F : Fx p s m args c cc RX0 D tys A nL fr lo R) (hd : decode cc pc = .ok (.getfield 7, 3)) (q0 : Nat) {a : Nat} {fs : List Value} (he : ws[q0]? = some (a, .inr (0, fs))) {v : Value} (hv : fs[7]? = some v) (hq : pc + 3 = q) (kk : V p l e R s m args below meth c D A nL cells slots Q q lv (v :: st) ws) : V p l e R s m args below meth c D A nL cells slots Q pc lv (.ref a :: st) ws := v_get F iw_X0 rfl 7 (by decide) (ALL_at 168 (by decide +kernel) rfl) hd q0 he hv hq kk
theorem gt_X0_13 (F : Fx p s m args c cc RX0 D tys A nL fr lo R) (hd : decode cc pc = .ok (.getfield 13, 3)) (q0 : Nat) {a : Nat} {fs : List Value} (he : ws[q0]? = some (a, .inr (0, fs))) {v : Value} (hv : fs[0]? = some v) (hq : pc + 3 = q) (kk : V p l e R s m args below meth c D A nL cells slots Q q lv (v :: st) ws) : V p l e R s m args below meth c D A nL cells slots Q pc lv (.ref a :: st) ws := v_get F iw_X0 rfl 0 (by decide) (ALL_at 161 (by decide +kernel) rfl) hd q0 he hv hq kk
theorem gt_X0_17 (F : Fx p s m args c cc RX0 D tys A nL fr lo R) (hd : decode cc pc = .ok (.getfield 17, 3)) (q0 : Nat) {a : Nat} {fs : List Value} (he : ws[q0]? = some (a, .inr (5, fs))) {v : Value} (hv : fs[5]? = some v) (hq : pc + 3 = q) (kk : V p l e R s m args below meth c D A nL cells slots Q q lv (v :: st) ws) : V p l e R s m args below meth c D A nL cells slots Q pc lv (.ref a :: st) ws := v_getN F (host := "PileCaps") iw_X5 rfl 5 (by decide) (NWL_at 116 (by decide +kernel)) hd q0 he hv hq kk
theorem gt_X0_23 (F : Fx p s m args c cc RX0 D tys A nL fr lo R) (hd : decode cc pc = .ok (.getfield 23, 3)) (q0 : Nat) {a : Nat} {fs : List Value} (he : ws[q0]? = some (a, .inr (5, fs))) {v : Value} (hv : fs[3]? = some v) (hq : pc + 3 = q) (kk : V p l e R s m args below meth c D A nL cells slots Q q lv (v :: st) ws) : V p l e R s m args below meth c D A nL cells slots Q pc lv (.ref a :: st) ws := v_getN F (host := "PileCaps") iw_X5 rfl 3 (by decide) (NWL_at 110 (by decide +kernel)) hd q0 he hv hq kk
theorem gt_X0_27 (F : Fx p s m args c cc RX0 D tys A nL fr lo R) (hd : decode cc pc = .ok (.getfield 27, 3)) (q0 : Nat) {a : Nat} {fs : List Value} (he : ws[q0]? = some (a, .inr (5, fs))) {v : Value} (hv : fs[0]? = some v) (hq : pc + 3 = q) (kk : V p l e R s m args below meth c D A nL cells slots Q q lv (v :: st) ws) : V p l e R s m args below meth c D A nL cells slots Q pc lv (.ref a :: st) ws := v_getN F (host := "PileCaps") iw_X5 rfl 0 (by decide) (NWL_at 99 (by decide +kernel)) hd q0 he hv hq kk
theorem gt_X0_30 (F : Fx p s m args c cc RX0 D tys A nL fr lo R) (hd : decode cc pc = .ok (.getfield 30, 3)) (q0 : Nat) {a : Nat} {fs : List Value} (he : ws[q0]? = some (a, .inr (5, fs))) {v : Value} (hv : fs[1]? = some v) (hq : pc + 3 = q) (kk : V p l e R s m args below meth c D A nL cells slots Q q lv (v :: st) ws) : V p l e R s m args below meth c D A nL cells slots Q pc lv (.ref a :: st) ws := v_getN F (host := "PileCaps") iw_X5 rfl 1 (by decide) (NWL_at 103 (by decide +kernel)) hd q0 he hv hq kk
theorem gt_X0_33 (F : Fx p s m args c cc RX0 D tys A nL fr lo R) (hd : decode cc pc = .ok (.getfield 33, 3)) (q0 : Nat) {a : Nat} {fs : List Value} (he : ws[q0]? = some (a, .inr (0, fs))) {v : Value} (hv : fs[1]? = some v) (hq : pc + 3 = q) (kk : V p l e R s m args below meth c D A nL cells slots Q q lv (v :: st) ws) : V p l e R s m args below meth c D A nL cells slots Q pc lv (.ref a :: st) ws := v_get F iw_X0 rfl 1 (by decide) (ALL_at 162 (by decide +kernel) rfl) hd q0 he hv hq kk
theorem gt_X0_36 (F : Fx p s m args c cc RX0 D tys A nL fr lo R) (hd : decode cc pc = .ok (.getfield 36, 3)) (q0 : Nat) {a : Nat} {fs : List Value} (he : ws[q0]? = some (a, .inr (0, fs))) {v : Value} (hv : fs[2]? = some v) (hq : pc + 3 = q) (kk : V p l e R s m args below meth c D A nL cells slots Q q lv (v :: st) ws) : V p l e R s m args below meth c D A nL cells slots Q pc lv (.ref a :: st) ws := v_get F iw_X0 rfl 2 (by decide) (ALL_at 163 (by decide +kernel) rfl) hd q0 he hv hq kk
theorem gt_X0_39 (F : Fx p s m args c cc RX0 D tys A nL fr lo R) (hd : decode cc pc = .ok (.getfield 39, 3)) (q0 : Nat) {a : Nat} {fs : List Value} (he : ws[q0]? = some (a, .inr (0, fs))) {v : Value} (hv : fs[3]? = some v) (hq : pc + 3 = q) (kk : V p l e R s m args below meth c D A nL cells slots Q q lv (v :: st) ws) : V p l e R s m args below meth c D A nL cells slots Q pc lv (.ref a :: st) ws := v_get F iw_X0 rfl 3 (by decide) (ALL_at 164 (by decide +kernel) rfl) hd q0 he hv hq kk
theorem gt_X0_42 (F : Fx p s m args c cc RX0 D tys A nL fr lo R) (hd : decode cc pc = .ok (.getfield 42, 3)) (q0 : Nat) {a : Nat} {fs : List Value} (he : ws[q0]? = some (a, .inr (0, fs))) {v : Value} (hv : fs[4]? = some v) (hq : pc + 3 = q) (kk : V p l e R s m args below meth c D A nL cells slots Q q lv (v :: st) ws) : V p l e R s m args below meth c D A nL cells slots Q pc lv (.ref a :: st) ws := v_get F iw_X0 rfl 4 (by decide) (ALL_at 165 (by decide +kernel) rfl) hd q0 he hv hq kk
theorem gt_X0_45 (F : Fx p s m args c cc RX0 D tys A nL fr lo R) (hd : decode cc pc = .ok (.getfield 45, 3)) (q0 : Nat) {a : Nat} {fs : List Value} (he : ws[q0]? = some (a, .inr (0, fs))) {v : Value} (hv : fs[5]? = some v) (hq : pc + 3 = q) (kk : V p l e R s m args below meth c D A nL cells slots Q q lv (v :: st) ws) : V p l e R s m args below meth c D A nL cells slots Q pc lv (.ref a :: st) ws := v_get F iw_X0 rfl 5 (by decide) (ALL_at 166 (by decide +kernel) rfl) hd q0 he hv hq kk
theorem gt_X0_48 (F : Fx p s m args c cc RX0 D tys A nL fr lo R) (hd : decode cc pc = .ok (.getfield 48, 3)) (q0 : Nat) {a : Nat} {fs : List Value} (he : ws[q0]? = some (a, .inr (0, fs))) {v : Value} (hv : fs[6]? = some v) (hq : pc + 3 = q) (kk : V p l e R s m args below meth c D A nL cells slots Q q lv (v :: st) ws) : V p l e R s m args below meth c D A nL cells slots Q pc lv (.ref a :: st) ws := v_get F iw_X0 rfl 6 (by decide) (ALL_at 167 (by decide +kernel) rfl) hd q0 he hv hq kk
theorem gt_X0_51 (F : Fx p s m args c cc RX0 D tys A nL fr lo R) (hd : decode cc pc = .ok (.getfield 51, 3)) (q0 : Nat) {a : Nat} {fs : List Value} (he : ws[q0]? = some (a, .inr (4, fs))) {v : Value} (hv : fs[1]? = some v) (hq : pc + 3 = q) (kk : V p l e R s m args below meth c D A nL cells slots Q q lv (v :: st) ws) : V p l e R s m args below meth c D A nL cells slots Q pc lv (.ref a :: st) ws := v_getN F (host := "PileCaps") iw_X4 rfl 1 (by decide) (NWL_at 140 (by decide +kernel)) hd q0 he hv hq kk
theorem gt_X0_57 (F : Fx p s m args c cc RX0 D tys A nL fr lo R) (hd : decode cc pc = .ok (.getfield 57, 3)) (q0 : Nat) {a : Nat} {fs : List Value} (he : ws[q0]? = some (a, .inr (4, fs))) {v : Value} (hv : fs[2]? = some v) (hq : pc + 3 = q) (kk : V p l e R s m args below meth c D A nL cells slots Q q lv (v :: st) ws) : V p l e R s m args below meth c D A nL cells slots Q pc lv (.ref a :: st) ws := v_getN F (host := "PileCaps") iw_X4 rfl 2 (by decide) (NWL_at 142 (by decide +kernel)) hd q0 he hv hq kk
theorem gt_X0_60 (F : Fx p s m args c cc RX0 D tys A nL fr lo R) (hd : decode cc pc = .ok (.getfield 60, 3)) (q0 : Nat) {a : Nat} {fs : List Value} (he : ws[q0]? = some (a, .inr (4, fs))) {v : Value} (hv : fs[3]? = some v) (hq : pc + 3 = q) (kk : V p l e R s m args below meth c D A nL cells slots Q q lv (v :: st) ws) : V p l e R s m args below meth c D A nL cells slots Q pc lv (.ref a :: st) ws := v_getN F (host := "PileCaps") iw_X4 rfl 3 (by decide) (NWL_at 144 (by decide +kernel)) hd q0 he hv hq kk
theorem gt_X0_63 (F : Fx p s m args c cc RX0 D tys A nL fr lo R) (hd : decode cc pc = .ok (.getfield 63, 3)) (q0 : Nat) {a : Nat} {fs : List Value} (he : ws[q0]? = some (a, .inr (0, fs))) {v : Value} (hv : fs[8]? = some v) (hq : pc + 3 = q) (kk : V p l e R s m args below meth c D A nL cells slots Q q lv (v :: st) ws) : V p l e R s m args below meth c D A nL cells slots Q pc lv (.ref a :: st) ws := v_get F iw_X0 rfl 8 (by decide) (ALL_at 170 (by decide +kernel) rfl) hd q0 he hv hq kk
theorem gt_X0_66 (F : Fx p s m args c cc RX0 D tys A nL fr lo R) (hd : decode cc pc = .ok (.getfield 66, 3)) (q0 : Nat) {a : Nat} {fs : List Value} (he : ws[q0]? = some (a, .inr (0, fs))) {v : Value} (hv : fs[9]? = some v) (hq : pc + 3 = q) (kk : V p l e R s m args below meth c D A nL cells slots Q q lv (v :: st) ws) : V p l e R s m args below meth c D A nL cells slots Q pc lv (.ref a :: st) ws := v_get F iw_X0 rfl 9 (by decide) (ALL_at 172 (by decide +kernel) rfl) hd q0 he hv hq kk
theorem gt_X0_69 (F : Fx p s m args c cc RX0 D tys A nL fr lo R) (hd : decode cc pc = .ok (.getfield 69, 3)) (q0 : Nat) {a : Nat} {fs : List Value} (he : ws[q0]? = some (a, .inr (0, fs))) {v : Value} (hv : fs[10]? = some v) (hq : pc + 3 = q) (kk : V p l e R s m args below meth c D A nL cells slots Q q lv (v :: st) ws) : V p l e R s m args below meth c D A nL cells slots Q pc lv (.ref a :: st) ws := v_get F iw_X0 rfl 10 (by decide) (ALL_at 174 (by decide +kernel) rfl) hd q0 he hv hq kk
theorem gt_X1_7 (F : Fx p s m args c cc RX1 D tys A nL fr lo R) (hd : decode cc pc = .ok (.getfield 7, 3)) (q0 : Nat) {a : Nat} {fs : List Value} (he : ws[q0]? = some (a, .inr (1, fs))) {v : Value} (hv : fs[0]? = some v) (hq : pc + 3 = q) (kk : V p l e R s m args below meth c D A nL cells slots Q q lv (v :: st) ws) : V p l e R s m args below meth c D A nL cells slots Q pc lv (.ref a :: st) ws := v_get F iw_X1 rfl 0 (by decide) (ALL_at 221 (by decide +kernel) rfl) hd q0 he hv hq kk
theorem gt_X1_13 (F : Fx p s m args c cc RX1 D tys A nL fr lo R) (hd : decode cc pc = .ok (.getfield 13, 3)) (q0 : Nat) {a : Nat} {fs : List Value} (he : ws[q0]? = some (a, .inr (1, fs))) {v : Value} (hv : fs[1]? = some v) (hq : pc + 3 = q) (kk : V p l e R s m args below meth c D A nL cells slots Q q lv (v :: st) ws) : V p l e R s m args below meth c D A nL cells slots Q pc lv (.ref a :: st) ws := v_get F iw_X1 rfl 1 (by decide) (ALL_at 223 (by decide +kernel) rfl) hd q0 he hv hq kk
theorem gt_X1_16 (F : Fx p s m args c cc RX1 D tys A nL fr lo R) (hd : decode cc pc = .ok (.getfield 16, 3)) (q0 : Nat) {a : Nat} {fs : List Value} (he : ws[q0]? = some (a, .inr (1, fs))) {v : Value} (hv : fs[2]? = some v) (hq : pc + 3 = q) (kk : V p l e R s m args below meth c D A nL cells slots Q q lv (v :: st) ws) : V p l e R s m args below meth c D A nL cells slots Q pc lv (.ref a :: st) ws := v_get F iw_X1 rfl 2 (by decide) (ALL_at 225 (by decide +kernel) rfl) hd q0 he hv hq kk
theorem gt_X1_19 (F : Fx p s m args c cc RX1 D tys A nL fr lo R) (hd : decode cc pc = .ok (.getfield 19, 3)) (q0 : Nat) {a : Nat} {fs : List Value} (he : ws[q0]? = some (a, .inr (1, fs))) {v : Value} (hv : fs[3]? = some v) (hq : pc + 3 = q) (kk : V p l e R s m args below meth c D A nL cells slots Q q lv (v :: st) ws) : V p l e R s m args below meth c D A nL cells slots Q pc lv (.ref a :: st) ws := v_get F iw_X1 rfl 3 (by decide) (ALL_at 227 (by decide +kernel) rfl) hd q0 he hv hq kk
theorem gt_X1_22 (F : Fx p s m args c cc RX1 D tys A nL fr lo R) (hd : decode cc pc = .ok (.getfield 22, 3)) (q0 : Nat) {a : Nat} {fs : List Value} (he : ws[q0]? = some (a, .inr (1, fs))) {v : Value} (hv : fs[4]? = some v) (hq : pc + 3 = q) (kk : V p l e R s m args below meth c D A nL cells slots Q q lv (v :: st) ws) : V p l e R s m args below meth c D A nL cells slots Q pc lv (.ref a :: st) ws := v_get F iw_X1 rfl 4 (by decide) (ALL_at 229 (by decide +kernel) rfl) hd q0 he hv hq kk
theorem gt_X2_9 (F : Fx p s m args c cc RX2 D tys A nL fr lo R) (hd : decode cc pc = .ok (.getfield 9, 3)) (q0 : Nat) {a : Nat} {fs : List Value} (he : ws[q0]? = some (a, .inr (2, fs))) {v : Value} (hv : fs[0]? = some v) (hq : pc + 3 = q) (kk : V p l e R s m args below meth c D A nL cells slots Q q lv (v :: st) ws) : V p l e R s m args below meth c D A nL cells slots Q pc lv (.ref a :: st) ws := v_get F iw_X2 rfl 0 (by decide) (ALL_at 74 (by decide +kernel) rfl) hd q0 he hv hq kk
theorem gt_X2_15 (F : Fx p s m args c cc RX2 D tys A nL fr lo R) (hd : decode cc pc = .ok (.getfield 15, 3)) (q0 : Nat) {a : Nat} {fs : List Value} (he : ws[q0]? = some (a, .inr (2, fs))) {v : Value} (hv : fs[1]? = some v) (hq : pc + 3 = q) (kk : V p l e R s m args below meth c D A nL cells slots Q q lv (v :: st) ws) : V p l e R s m args below meth c D A nL cells slots Q pc lv (.ref a :: st) ws := v_get F iw_X2 rfl 1 (by decide) (ALL_at 75 (by decide +kernel) rfl) hd q0 he hv hq kk
theorem gt_X2_18 (F : Fx p s m args c cc RX2 D tys A nL fr lo R) (hd : decode cc pc = .ok (.getfield 18, 3)) (q0 : Nat) {a : Nat} {fs : List Value} (he : ws[q0]? = some (a, .inr (2, fs))) {v : Value} (hv : fs[2]? = some v) (hq : pc + 3 = q) (kk : V p l e R s m args below meth c D A nL cells slots Q q lv (v :: st) ws) : V p l e R s m args below meth c D A nL cells slots Q pc lv (.ref a :: st) ws := v_get F iw_X2 rfl 2 (by decide) (ALL_at 76 (by decide +kernel) rfl) hd q0 he hv hq kk
theorem gt_X2_21 (F : Fx p s m args c cc RX2 D tys A nL fr lo R) (hd : decode cc pc = .ok (.getfield 21, 3)) (q0 : Nat) {a : Nat} {fs : List Value} (he : ws[q0]? = some (a, .inr (2, fs))) {v : Value} (hv : fs[3]? = some v) (hq : pc + 3 = q) (kk : V p l e R s m args below meth c D A nL cells slots Q q lv (v :: st) ws) : V p l e R s m args below meth c D A nL cells slots Q pc lv (.ref a :: st) ws := v_get F iw_X2 rfl 3 (by decide) (ALL_at 77 (by decide +kernel) rfl) hd q0 he hv hq kk
theorem gt_X2_25 (F : Fx p s m args c cc RX2 D tys A nL fr lo R) (hd : decode cc pc = .ok (.getfield 25, 3)) (q0 : Nat) {a : Nat} {fs : List Value} (he : ws[q0]? = some (a, .inr (2, fs))) {v : Value} (hv : fs[4]? = some v) (hq : pc + 3 = q) (kk : V p l e R s m args below meth c D A nL cells slots Q q lv (v :: st) ws) : V p l e R s m args below meth c D A nL cells slots Q pc lv (.ref a :: st) ws := v_get F iw_X2 rfl 4 (by decide) (ALL_at 79 (by decide +kernel) rfl) hd q0 he hv hq kk
theorem gt_X3_9 (F : Fx p s m args c cc RX3 D tys A nL fr lo R) (hd : decode cc pc = .ok (.getfield 9, 3)) (q0 : Nat) {a : Nat} {fs : List Value} (he : ws[q0]? = some (a, .inr (3, fs))) {v : Value} (hv : fs[0]? = some v) (hq : pc + 3 = q) (kk : V p l e R s m args below meth c D A nL cells slots Q q lv (v :: st) ws) : V p l e R s m args below meth c D A nL cells slots Q pc lv (.ref a :: st) ws := v_get F iw_X3 rfl 0 (by decide) (ALL_at 205 (by decide +kernel) rfl) hd q0 he hv hq kk
theorem gt_X3_15 (F : Fx p s m args c cc RX3 D tys A nL fr lo R) (hd : decode cc pc = .ok (.getfield 15, 3)) (q0 : Nat) {a : Nat} {fs : List Value} (he : ws[q0]? = some (a, .inr (3, fs))) {v : Value} (hv : fs[1]? = some v) (hq : pc + 3 = q) (kk : V p l e R s m args below meth c D A nL cells slots Q q lv (v :: st) ws) : V p l e R s m args below meth c D A nL cells slots Q pc lv (.ref a :: st) ws := v_get F iw_X3 rfl 1 (by decide) (ALL_at 206 (by decide +kernel) rfl) hd q0 he hv hq kk
theorem gt_X3_18 (F : Fx p s m args c cc RX3 D tys A nL fr lo R) (hd : decode cc pc = .ok (.getfield 18, 3)) (q0 : Nat) {a : Nat} {fs : List Value} (he : ws[q0]? = some (a, .inr (3, fs))) {v : Value} (hv : fs[2]? = some v) (hq : pc + 3 = q) (kk : V p l e R s m args below meth c D A nL cells slots Q q lv (v :: st) ws) : V p l e R s m args below meth c D A nL cells slots Q pc lv (.ref a :: st) ws := v_get F iw_X3 rfl 2 (by decide) (ALL_at 207 (by decide +kernel) rfl) hd q0 he hv hq kk
theorem gt_X3_21 (F : Fx p s m args c cc RX3 D tys A nL fr lo R) (hd : decode cc pc = .ok (.getfield 21, 3)) (q0 : Nat) {a : Nat} {fs : List Value} (he : ws[q0]? = some (a, .inr (5, fs))) {v : Value} (hv : fs[5]? = some v) (hq : pc + 3 = q) (kk : V p l e R s m args below meth c D A nL cells slots Q q lv (v :: st) ws) : V p l e R s m args below meth c D A nL cells slots Q pc lv (.ref a :: st) ws := v_getN F (host := "PileCaps") iw_X5 rfl 5 (by decide) (NWL_at 115 (by decide +kernel)) hd q0 he hv hq kk
theorem gt_X3_27 (F : Fx p s m args c cc RX3 D tys A nL fr lo R) (hd : decode cc pc = .ok (.getfield 27, 3)) (q0 : Nat) {a : Nat} {fs : List Value} (he : ws[q0]? = some (a, .inr (5, fs))) {v : Value} (hv : fs[2]? = some v) (hq : pc + 3 = q) (kk : V p l e R s m args below meth c D A nL cells slots Q q lv (v :: st) ws) : V p l e R s m args below meth c D A nL cells slots Q pc lv (.ref a :: st) ws := v_getN F (host := "PileCaps") iw_X5 rfl 2 (by decide) (NWL_at 107 (by decide +kernel)) hd q0 he hv hq kk
theorem gt_X3_39 (F : Fx p s m args c cc RX3 D tys A nL fr lo R) (hd : decode cc pc = .ok (.getfield 39, 3)) (q0 : Nat) {a : Nat} {fs : List Value} (he : ws[q0]? = some (a, .inr (5, fs))) {v : Value} (hv : fs[0]? = some v) (hq : pc + 3 = q) (kk : V p l e R s m args below meth c D A nL cells slots Q q lv (v :: st) ws) : V p l e R s m args below meth c D A nL cells slots Q pc lv (.ref a :: st) ws := v_getN F (host := "PileCaps") iw_X5 rfl 0 (by decide) (NWL_at 100 (by decide +kernel)) hd q0 he hv hq kk
theorem gt_X3_42 (F : Fx p s m args c cc RX3 D tys A nL fr lo R) (hd : decode cc pc = .ok (.getfield 42, 3)) (q0 : Nat) {a : Nat} {fs : List Value} (he : ws[q0]? = some (a, .inr (5, fs))) {v : Value} (hv : fs[1]? = some v) (hq : pc + 3 = q) (kk : V p l e R s m args below meth c D A nL cells slots Q q lv (v :: st) ws) : V p l e R s m args below meth c D A nL cells slots Q pc lv (.ref a :: st) ws := v_getN F (host := "PileCaps") iw_X5 rfl 1 (by decide) (NWL_at 104 (by decide +kernel)) hd q0 he hv hq kk
theorem gt_X4_9 (F : Fx p s m args c cc RX4 D tys A nL fr lo R) (hd : decode cc pc = .ok (.getfield 9, 3)) (q0 : Nat) {a : Nat} {fs : List Value} (he : ws[q0]? = some (a, .inr (4, fs))) {v : Value} (hv : fs[0]? = some v) (hq : pc + 3 = q) (kk : V p l e R s m args below meth c D A nL cells slots Q q lv (v :: st) ws) : V p l e R s m args below meth c D A nL cells slots Q pc lv (.ref a :: st) ws := v_get F iw_X4 rfl 0 (by decide) (ALL_at 137 (by decide +kernel) rfl) hd q0 he hv hq kk
theorem gt_X4_15 (F : Fx p s m args c cc RX4 D tys A nL fr lo R) (hd : decode cc pc = .ok (.getfield 15, 3)) (q0 : Nat) {a : Nat} {fs : List Value} (he : ws[q0]? = some (a, .inr (4, fs))) {v : Value} (hv : fs[1]? = some v) (hq : pc + 3 = q) (kk : V p l e R s m args below meth c D A nL cells slots Q q lv (v :: st) ws) : V p l e R s m args below meth c D A nL cells slots Q pc lv (.ref a :: st) ws := v_get F iw_X4 rfl 1 (by decide) (ALL_at 139 (by decide +kernel) rfl) hd q0 he hv hq kk
theorem gt_X4_19 (F : Fx p s m args c cc RX4 D tys A nL fr lo R) (hd : decode cc pc = .ok (.getfield 19, 3)) (q0 : Nat) {a : Nat} {fs : List Value} (he : ws[q0]? = some (a, .inr (4, fs))) {v : Value} (hv : fs[2]? = some v) (hq : pc + 3 = q) (kk : V p l e R s m args below meth c D A nL cells slots Q q lv (v :: st) ws) : V p l e R s m args below meth c D A nL cells slots Q pc lv (.ref a :: st) ws := v_get F iw_X4 rfl 2 (by decide) (ALL_at 141 (by decide +kernel) rfl) hd q0 he hv hq kk
theorem gt_X4_22 (F : Fx p s m args c cc RX4 D tys A nL fr lo R) (hd : decode cc pc = .ok (.getfield 22, 3)) (q0 : Nat) {a : Nat} {fs : List Value} (he : ws[q0]? = some (a, .inr (4, fs))) {v : Value} (hv : fs[3]? = some v) (hq : pc + 3 = q) (kk : V p l e R s m args below meth c D A nL cells slots Q q lv (v :: st) ws) : V p l e R s m args below meth c D A nL cells slots Q pc lv (.ref a :: st) ws := v_get F iw_X4 rfl 3 (by decide) (ALL_at 143 (by decide +kernel) rfl) hd q0 he hv hq kk
theorem gt_X5_9 (F : Fx p s m args c cc RX5 D tys A nL fr lo R) (hd : decode cc pc = .ok (.getfield 9, 3)) (q0 : Nat) {a : Nat} {fs : List Value} (he : ws[q0]? = some (a, .inr (5, fs))) {v : Value} (hv : fs[0]? = some v) (hq : pc + 3 = q) (kk : V p l e R s m args below meth c D A nL cells slots Q q lv (v :: st) ws) : V p l e R s m args below meth c D A nL cells slots Q pc lv (.ref a :: st) ws := v_get F iw_X5 rfl 0 (by decide) (ALL_at 98 (by decide +kernel) rfl) hd q0 he hv hq kk
theorem gt_X5_15 (F : Fx p s m args c cc RX5 D tys A nL fr lo R) (hd : decode cc pc = .ok (.getfield 15, 3)) (q0 : Nat) {a : Nat} {fs : List Value} (he : ws[q0]? = some (a, .inr (5, fs))) {v : Value} (hv : fs[1]? = some v) (hq : pc + 3 = q) (kk : V p l e R s m args below meth c D A nL cells slots Q q lv (v :: st) ws) : V p l e R s m args below meth c D A nL cells slots Q pc lv (.ref a :: st) ws := v_get F iw_X5 rfl 1 (by decide) (ALL_at 102 (by decide +kernel) rfl) hd q0 he hv hq kk
theorem gt_X5_18 (F : Fx p s m args c cc RX5 D tys A nL fr lo R) (hd : decode cc pc = .ok (.getfield 18, 3)) (q0 : Nat) {a : Nat} {fs : List Value} (he : ws[q0]? = some (a, .inr (5, fs))) {v : Value} (hv : fs[2]? = some v) (hq : pc + 3 = q) (kk : V p l e R s m args below meth c D A nL cells slots Q q lv (v :: st) ws) : V p l e R s m args below meth c D A nL cells slots Q pc lv (.ref a :: st) ws := v_get F iw_X5 rfl 2 (by decide) (ALL_at 106 (by decide +kernel) rfl) hd q0 he hv hq kk
theorem gt_X5_21 (F : Fx p s m args c cc RX5 D tys A nL fr lo R) (hd : decode cc pc = .ok (.getfield 21, 3)) (q0 : Nat) {a : Nat} {fs : List Value} (he : ws[q0]? = some (a, .inr (5, fs))) {v : Value} (hv : fs[3]? = some v) (hq : pc + 3 = q) (kk : V p l e R s m args below meth c D A nL cells slots Q q lv (v :: st) ws) : V p l e R s m args below meth c D A nL cells slots Q pc lv (.ref a :: st) ws := v_get F iw_X5 rfl 3 (by decide) (ALL_at 109 (by decide +kernel) rfl) hd q0 he hv hq kk
theorem gt_X5_24 (F : Fx p s m args c cc RX5 D tys A nL fr lo R) (hd : decode cc pc = .ok (.getfield 24, 3)) (q0 : Nat) {a : Nat} {fs : List Value} (he : ws[q0]? = some (a, .inr (5, fs))) {v : Value} (hv : fs[4]? = some v) (hq : pc + 3 = q) (kk : V p l e R s m args below meth c D A nL cells slots Q q lv (v :: st) ws) : V p l e R s m args below meth c D A nL cells slots Q pc lv (.ref a :: st) ws := v_get F iw_X5 rfl 4 (by decide) (ALL_at 112 (by decide +kernel) rfl) hd q0 he hv hq kk
theorem gt_X5_28 (F : Fx p s m args c cc RX5 D tys A nL fr lo R) (hd : decode cc pc = .ok (.getfield 28, 3)) (q0 : Nat) {a : Nat} {fs : List Value} (he : ws[q0]? = some (a, .inr (5, fs))) {v : Value} (hv : fs[5]? = some v) (hq : pc + 3 = q) (kk : V p l e R s m args below meth c D A nL cells slots Q q lv (v :: st) ws) : V p l e R s m args below meth c D A nL cells slots Q pc lv (.ref a :: st) ws := v_get F iw_X5 rfl 5 (by decide) (ALL_at 114 (by decide +kernel) rfl) hd q0 he hv hq kk
theorem gt_X6_9 (F : Fx p s m args c cc RX6 D tys A nL fr lo R) (hd : decode cc pc = .ok (.getfield 9, 3)) (q0 : Nat) {a : Nat} {fs : List Value} (he : ws[q0]? = some (a, .inr (6, fs))) {v : Value} (hv : fs[0]? = some v) (hq : pc + 3 = q) (kk : V p l e R s m args below meth c D A nL cells slots Q q lv (v :: st) ws) : V p l e R s m args below meth c D A nL cells slots Q pc lv (.ref a :: st) ws := v_get F iw_X6 rfl 0 (by decide) (ALL_at 248 (by decide +kernel) rfl) hd q0 he hv hq kk
theorem gt_X6_15 (F : Fx p s m args c cc RX6 D tys A nL fr lo R) (hd : decode cc pc = .ok (.getfield 15, 3)) (q0 : Nat) {a : Nat} {fs : List Value} (he : ws[q0]? = some (a, .inr (6, fs))) {v : Value} (hv : fs[1]? = some v) (hq : pc + 3 = q) (kk : V p l e R s m args below meth c D A nL cells slots Q q lv (v :: st) ws) : V p l e R s m args below meth c D A nL cells slots Q pc lv (.ref a :: st) ws := v_get F iw_X6 rfl 1 (by decide) (ALL_at 250 (by decide +kernel) rfl) hd q0 he hv hq kk
theorem gt_X6_18 (F : Fx p s m args c cc RX6 D tys A nL fr lo R) (hd : decode cc pc = .ok (.getfield 18, 3)) (q0 : Nat) {a : Nat} {fs : List Value} (he : ws[q0]? = some (a, .inr (6, fs))) {v : Value} (hv : fs[2]? = some v) (hq : pc + 3 = q) (kk : V p l e R s m args below meth c D A nL cells slots Q q lv (v :: st) ws) : V p l e R s m args below meth c D A nL cells slots Q pc lv (.ref a :: st) ws := v_get F iw_X6 rfl 2 (by decide) (ALL_at 252 (by decide +kernel) rfl) hd q0 he hv hq kk
theorem gt_X7_12 (F : Fx p s m args c cc RX7 D tys A nL fr lo R) (hd : decode cc pc = .ok (.getfield 12, 3)) (q0 : Nat) {a : Nat} {fs : List Value} (he : ws[q0]? = some (a, .inr (7, fs))) {v : Value} (hv : fs[0]? = some v) (hq : pc + 3 = q) (kk : V p l e R s m args below meth c D A nL cells slots Q q lv (v :: st) ws) : V p l e R s m args below meth c D A nL cells slots Q pc lv (.ref a :: st) ws := v_get F iw_X7 rfl 0 (by decide) (ALL_at 261 (by decide +kernel) rfl) hd q0 he hv hq kk
theorem gt_X7_19 (F : Fx p s m args c cc RX7 D tys A nL fr lo R) (hd : decode cc pc = .ok (.getfield 19, 3)) (q0 : Nat) {a : Nat} {fs : List Value} (he : ws[q0]? = some (a, .inr (7, fs))) {v : Value} (hv : fs[1]? = some v) (hq : pc + 3 = q) (kk : V p l e R s m args below meth c D A nL cells slots Q q lv (v :: st) ws) : V p l e R s m args below meth c D A nL cells slots Q pc lv (.ref a :: st) ws := v_get F iw_X7 rfl 1 (by decide) (ALL_at 262 (by decide +kernel) rfl) hd q0 he hv hq kk
theorem gt_X7_26 (F : Fx p s m args c cc RX7 D tys A nL fr lo R) (hd : decode cc pc = .ok (.getfield 26, 3)) (q0 : Nat) {a : Nat} {fs : List Value} (he : ws[q0]? = some (a, .inr (7, fs))) {v : Value} (hv : fs[2]? = some v) (hq : pc + 3 = q) (kk : V p l e R s m args below meth c D A nL cells slots Q q lv (v :: st) ws) : V p l e R s m args below meth c D A nL cells slots Q pc lv (.ref a :: st) ws := v_get F iw_X7 rfl 2 (by decide) (ALL_at 263 (by decide +kernel) rfl) hd q0 he hv hq kk
theorem gt_X7_35 (F : Fx p s m args c cc RX7 D tys A nL fr lo R) (hd : decode cc pc = .ok (.getfield 35, 3)) (q0 : Nat) {a : Nat} {fs : List Value} (he : ws[q0]? = some (a, .inr (7, fs))) {v : Value} (hv : fs[3]? = some v) (hq : pc + 3 = q) (kk : V p l e R s m args below meth c D A nL cells slots Q q lv (v :: st) ws) : V p l e R s m args below meth c D A nL cells slots Q pc lv (.ref a :: st) ws := v_get F iw_X7 rfl 3 (by decide) (ALL_at 264 (by decide +kernel) rfl) hd q0 he hv hq kk
theorem gt_X7_42 (F : Fx p s m args c cc RX7 D tys A nL fr lo R) (hd : decode cc pc = .ok (.getfield 42, 3)) (q0 : Nat) {a : Nat} {fs : List Value} (he : ws[q0]? = some (a, .inr (7, fs))) {v : Value} (hv : fs[4]? = some v) (hq : pc + 3 = q) (kk : V p l e R s m args below meth c D A nL cells slots Q q lv (v :: st) ws) : V p l e R s m args below meth c D A nL cells slots Q pc lv (.ref a :: st) ws := v_get F iw_X7 rfl 4 (by decide) (ALL_at 265 (by decide +kernel) rfl) hd q0 he hv hq kk
theorem gt_X7_49 (F : Fx p s m args c cc RX7 D tys A nL fr lo R) (hd : decode cc pc = .ok (.getfield 49, 3)) (q0 : Nat) {a : Nat} {fs : List Value} (he : ws[q0]? = some (a, .inr (7, fs))) {v : Value} (hv : fs[5]? = some v) (hq : pc + 3 = q) (kk : V p l e R s m args below meth c D A nL cells slots Q q lv (v :: st) ws) : V p l e R s m args below meth c D A nL cells slots Q pc lv (.ref a :: st) ws := v_get F iw_X7 rfl 5 (by decide) (ALL_at 266 (by decide +kernel) rfl) hd q0 he hv hq kk
theorem gt_X7_56 (F : Fx p s m args c cc RX7 D tys A nL fr lo R) (hd : decode cc pc = .ok (.getfield 56, 3)) (q0 : Nat) {a : Nat} {fs : List Value} (he : ws[q0]? = some (a, .inr (7, fs))) {v : Value} (hv : fs[6]? = some v) (hq : pc + 3 = q) (kk : V p l e R s m args below meth c D A nL cells slots Q q lv (v :: st) ws) : V p l e R s m args below meth c D A nL cells slots Q pc lv (.ref a :: st) ws := v_get F iw_X7 rfl 6 (by decide) (ALL_at 267 (by decide +kernel) rfl) hd q0 he hv hq kk
theorem gt_X7_60 (F : Fx p s m args c cc RX7 D tys A nL fr lo R) (hd : decode cc pc = .ok (.getfield 60, 3)) (q0 : Nat) {a : Nat} {fs : List Value} (he : ws[q0]? = some (a, .inr (7, fs))) {v : Value} (hv : fs[7]? = some v) (hq : pc + 3 = q) (kk : V p l e R s m args below meth c D A nL cells slots Q q lv (v :: st) ws) : V p l e R s m args below meth c D A nL cells slots Q pc lv (.ref a :: st) ws := v_get F iw_X7 rfl 7 (by decide) (ALL_at 268 (by decide +kernel) rfl) hd q0 he hv hq kk
theorem gt_X7_75 (F : Fx p s m args c cc RX7 D tys A nL fr lo R) (hd : decode cc pc = .ok (.getfield 75, 3)) (q0 : Nat) {a : Nat} {fs : List Value} (he : ws[q0]? = some (a, .inr (2, fs))) {v : Value} (hv : fs[3]? = some v) (hq : pc + 3 = q) (kk : V p l e R s m args below meth c D A nL cells slots Q q lv (v :: st) ws) : V p l e R s m args below meth c D A nL cells slots Q pc lv (.ref a :: st) ws := v_getN F (host := "PileCaps") iw_X2 rfl 3 (by decide) (NWL_at 78 (by decide +kernel)) hd q0 he hv hq kk
theorem gt_X7_100 (F : Fx p s m args c cc RX7 D tys A nL fr lo R) (hd : decode cc pc = .ok (.getfield 100, 3)) (q0 : Nat) {a : Nat} {fs : List Value} (he : ws[q0]? = some (a, .inr (5, fs))) {v : Value} (hv : fs[5]? = some v) (hq : pc + 3 = q) (kk : V p l e R s m args below meth c D A nL cells slots Q q lv (v :: st) ws) : V p l e R s m args below meth c D A nL cells slots Q pc lv (.ref a :: st) ws := v_getN F (host := "PileCaps") iw_X5 rfl 5 (by decide) (NWL_at 117 (by decide +kernel)) hd q0 he hv hq kk
theorem gt_X7_116 (F : Fx p s m args c cc RX7 D tys A nL fr lo R) (hd : decode cc pc = .ok (.getfield 116, 3)) (q0 : Nat) {a : Nat} {fs : List Value} (he : ws[q0]? = some (a, .inr (5, fs))) {v : Value} (hv : fs[0]? = some v) (hq : pc + 3 = q) (kk : V p l e R s m args below meth c D A nL cells slots Q q lv (v :: st) ws) : V p l e R s m args below meth c D A nL cells slots Q pc lv (.ref a :: st) ws := v_getN F (host := "PileCaps") iw_X5 rfl 0 (by decide) (NWL_at 101 (by decide +kernel)) hd q0 he hv hq kk
theorem gt_X7_120 (F : Fx p s m args c cc RX7 D tys A nL fr lo R) (hd : decode cc pc = .ok (.getfield 120, 3)) (q0 : Nat) {a : Nat} {fs : List Value} (he : ws[q0]? = some (a, .inr (5, fs))) {v : Value} (hv : fs[1]? = some v) (hq : pc + 3 = q) (kk : V p l e R s m args below meth c D A nL cells slots Q q lv (v :: st) ws) : V p l e R s m args below meth c D A nL cells slots Q pc lv (.ref a :: st) ws := v_getN F (host := "PileCaps") iw_X5 rfl 1 (by decide) (NWL_at 105 (by decide +kernel)) hd q0 he hv hq kk
theorem gt_X7_123 (F : Fx p s m args c cc RX7 D tys A nL fr lo R) (hd : decode cc pc = .ok (.getfield 123, 3)) (q0 : Nat) {a : Nat} {fs : List Value} (he : ws[q0]? = some (a, .inr (5, fs))) {v : Value} (hv : fs[2]? = some v) (hq : pc + 3 = q) (kk : V p l e R s m args below meth c D A nL cells slots Q q lv (v :: st) ws) : V p l e R s m args below meth c D A nL cells slots Q pc lv (.ref a :: st) ws := v_getN F (host := "PileCaps") iw_X5 rfl 2 (by decide) (NWL_at 108 (by decide +kernel)) hd q0 he hv hq kk
theorem gt_X7_126 (F : Fx p s m args c cc RX7 D tys A nL fr lo R) (hd : decode cc pc = .ok (.getfield 126, 3)) (q0 : Nat) {a : Nat} {fs : List Value} (he : ws[q0]? = some (a, .inr (5, fs))) {v : Value} (hv : fs[3]? = some v) (hq : pc + 3 = q) (kk : V p l e R s m args below meth c D A nL cells slots Q q lv (v :: st) ws) : V p l e R s m args below meth c D A nL cells slots Q pc lv (.ref a :: st) ws := v_getN F (host := "PileCaps") iw_X5 rfl 3 (by decide) (NWL_at 111 (by decide +kernel)) hd q0 he hv hq kk
theorem gt_X7_138 (F : Fx p s m args c cc RX7 D tys A nL fr lo R) (hd : decode cc pc = .ok (.getfield 138, 3)) (q0 : Nat) {a : Nat} {fs : List Value} (he : ws[q0]? = some (a, .inr (4, fs))) {v : Value} (hv : fs[0]? = some v) (hq : pc + 3 = q) (kk : V p l e R s m args below meth c D A nL cells slots Q q lv (v :: st) ws) : V p l e R s m args below meth c D A nL cells slots Q pc lv (.ref a :: st) ws := v_getN F (host := "PileCaps") iw_X4 rfl 0 (by decide) (NWL_at 138 (by decide +kernel)) hd q0 he hv hq kk
theorem gt_X7_149 (F : Fx p s m args c cc RX7 D tys A nL fr lo R) (hd : decode cc pc = .ok (.getfield 149, 3)) (q0 : Nat) {a : Nat} {fs : List Value} (he : ws[q0]? = some (a, .inr (0, fs))) {v : Value} (hv : fs[8]? = some v) (hq : pc + 3 = q) (kk : V p l e R s m args below meth c D A nL cells slots Q q lv (v :: st) ws) : V p l e R s m args below meth c D A nL cells slots Q pc lv (.ref a :: st) ws := v_getN F (host := "PileCaps") iw_X0 rfl 8 (by decide) (NWL_at 171 (by decide +kernel)) hd q0 he hv hq kk
theorem gt_X7_153 (F : Fx p s m args c cc RX7 D tys A nL fr lo R) (hd : decode cc pc = .ok (.getfield 153, 3)) (q0 : Nat) {a : Nat} {fs : List Value} (he : ws[q0]? = some (a, .inr (0, fs))) {v : Value} (hv : fs[7]? = some v) (hq : pc + 3 = q) (kk : V p l e R s m args below meth c D A nL cells slots Q q lv (v :: st) ws) : V p l e R s m args below meth c D A nL cells slots Q pc lv (.ref a :: st) ws := v_getN F (host := "PileCaps") iw_X0 rfl 7 (by decide) (NWL_at 169 (by decide +kernel)) hd q0 he hv hq kk
theorem gt_X7_159 (F : Fx p s m args c cc RX7 D tys A nL fr lo R) (hd : decode cc pc = .ok (.getfield 159, 3)) (q0 : Nat) {a : Nat} {fs : List Value} (he : ws[q0]? = some (a, .inr (0, fs))) {v : Value} (hv : fs[9]? = some v) (hq : pc + 3 = q) (kk : V p l e R s m args below meth c D A nL cells slots Q q lv (v :: st) ws) : V p l e R s m args below meth c D A nL cells slots Q pc lv (.ref a :: st) ws := v_getN F (host := "PileCaps") iw_X0 rfl 9 (by decide) (NWL_at 173 (by decide +kernel)) hd q0 he hv hq kk
theorem gt_X7_162 (F : Fx p s m args c cc RX7 D tys A nL fr lo R) (hd : decode cc pc = .ok (.getfield 162, 3)) (q0 : Nat) {a : Nat} {fs : List Value} (he : ws[q0]? = some (a, .inr (0, fs))) {v : Value} (hv : fs[10]? = some v) (hq : pc + 3 = q) (kk : V p l e R s m args below meth c D A nL cells slots Q q lv (v :: st) ws) : V p l e R s m args below meth c D A nL cells slots Q pc lv (.ref a :: st) ws := v_getN F (host := "PileCaps") iw_X0 rfl 10 (by decide) (NWL_at 175 (by decide +kernel)) hd q0 he hv hq kk
theorem gt_X7_173 (F : Fx p s m args c cc RX7 D tys A nL fr lo R) (hd : decode cc pc = .ok (.getfield 173, 3)) (q0 : Nat) {a : Nat} {fs : List Value} (he : ws[q0]? = some (a, .inr (5, fs))) {v : Value} (hv : fs[4]? = some v) (hq : pc + 3 = q) (kk : V p l e R s m args below meth c D A nL cells slots Q q lv (v :: st) ws) : V p l e R s m args below meth c D A nL cells slots Q pc lv (.ref a :: st) ws := v_getN F (host := "PileCaps") iw_X5 rfl 4 (by decide) (NWL_at 113 (by decide +kernel)) hd q0 he hv hq kk
theorem gt_X7_208 (F : Fx p s m args c cc RX7 D tys A nL fr lo R) (hd : decode cc pc = .ok (.getfield 208, 3)) (q0 : Nat) {a : Nat} {fs : List Value} (he : ws[q0]? = some (a, .inr (1, fs))) {v : Value} (hv : fs[1]? = some v) (hq : pc + 3 = q) (kk : V p l e R s m args below meth c D A nL cells slots Q q lv (v :: st) ws) : V p l e R s m args below meth c D A nL cells slots Q pc lv (.ref a :: st) ws := v_getN F (host := "PileCaps") iw_X1 rfl 1 (by decide) (NWL_at 224 (by decide +kernel)) hd q0 he hv hq kk
theorem gt_X7_211 (F : Fx p s m args c cc RX7 D tys A nL fr lo R) (hd : decode cc pc = .ok (.getfield 211, 3)) (q0 : Nat) {a : Nat} {fs : List Value} (he : ws[q0]? = some (a, .inr (1, fs))) {v : Value} (hv : fs[2]? = some v) (hq : pc + 3 = q) (kk : V p l e R s m args below meth c D A nL cells slots Q q lv (v :: st) ws) : V p l e R s m args below meth c D A nL cells slots Q pc lv (.ref a :: st) ws := v_getN F (host := "PileCaps") iw_X1 rfl 2 (by decide) (NWL_at 226 (by decide +kernel)) hd q0 he hv hq kk
theorem gt_X7_214 (F : Fx p s m args c cc RX7 D tys A nL fr lo R) (hd : decode cc pc = .ok (.getfield 214, 3)) (q0 : Nat) {a : Nat} {fs : List Value} (he : ws[q0]? = some (a, .inr (1, fs))) {v : Value} (hv : fs[3]? = some v) (hq : pc + 3 = q) (kk : V p l e R s m args below meth c D A nL cells slots Q q lv (v :: st) ws) : V p l e R s m args below meth c D A nL cells slots Q pc lv (.ref a :: st) ws := v_getN F (host := "PileCaps") iw_X1 rfl 3 (by decide) (NWL_at 228 (by decide +kernel)) hd q0 he hv hq kk
theorem gt_X7_217 (F : Fx p s m args c cc RX7 D tys A nL fr lo R) (hd : decode cc pc = .ok (.getfield 217, 3)) (q0 : Nat) {a : Nat} {fs : List Value} (he : ws[q0]? = some (a, .inr (1, fs))) {v : Value} (hv : fs[4]? = some v) (hq : pc + 3 = q) (kk : V p l e R s m args below meth c D A nL cells slots Q q lv (v :: st) ws) : V p l e R s m args below meth c D A nL cells slots Q pc lv (.ref a :: st) ws := v_getN F (host := "PileCaps") iw_X1 rfl 4 (by decide) (NWL_at 230 (by decide +kernel)) hd q0 he hv hq kk
theorem gt_X7_220 (F : Fx p s m args c cc RX7 D tys A nL fr lo R) (hd : decode cc pc = .ok (.getfield 220, 3)) (q0 : Nat) {a : Nat} {fs : List Value} (he : ws[q0]? = some (a, .inr (1, fs))) {v : Value} (hv : fs[0]? = some v) (hq : pc + 3 = q) (kk : V p l e R s m args below meth c D A nL cells slots Q q lv (v :: st) ws) : V p l e R s m args below meth c D A nL cells slots Q pc lv (.ref a :: st) ws := v_getN F (host := "PileCaps") iw_X1 rfl 0 (by decide) (NWL_at 222 (by decide +kernel)) hd q0 he hv hq kk
theorem gt_X7_235 (F : Fx p s m args c cc RX7 D tys A nL fr lo R) (hd : decode cc pc = .ok (.getfield 235, 3)) (q0 : Nat) {a : Nat} {fs : List Value} (he : ws[q0]? = some (a, .inr (6, fs))) {v : Value} (hv : fs[2]? = some v) (hq : pc + 3 = q) (kk : V p l e R s m args below meth c D A nL cells slots Q q lv (v :: st) ws) : V p l e R s m args below meth c D A nL cells slots Q pc lv (.ref a :: st) ws := v_getN F (host := "PileCaps") iw_X6 rfl 2 (by decide) (NWL_at 253 (by decide +kernel)) hd q0 he hv hq kk
theorem gt_X7_238 (F : Fx p s m args c cc RX7 D tys A nL fr lo R) (hd : decode cc pc = .ok (.getfield 238, 3)) (q0 : Nat) {a : Nat} {fs : List Value} (he : ws[q0]? = some (a, .inr (6, fs))) {v : Value} (hv : fs[0]? = some v) (hq : pc + 3 = q) (kk : V p l e R s m args below meth c D A nL cells slots Q q lv (v :: st) ws) : V p l e R s m args below meth c D A nL cells slots Q pc lv (.ref a :: st) ws := v_getN F (host := "PileCaps") iw_X6 rfl 0 (by decide) (NWL_at 249 (by decide +kernel)) hd q0 he hv hq kk
theorem gt_X7_242 (F : Fx p s m args c cc RX7 D tys A nL fr lo R) (hd : decode cc pc = .ok (.getfield 242, 3)) (q0 : Nat) {a : Nat} {fs : List Value} (he : ws[q0]? = some (a, .inr (6, fs))) {v : Value} (hv : fs[1]? = some v) (hq : pc + 3 = q) (kk : V p l e R s m args below meth c D A nL cells slots Q q lv (v :: st) ws) : V p l e R s m args below meth c D A nL cells slots Q pc lv (.ref a :: st) ws := v_getN F (host := "PileCaps") iw_X6 rfl 1 (by decide) (NWL_at 251 (by decide +kernel)) hd q0 he hv hq kk
theorem gt_X8_7 (F : Fx p s m args c cc RX8 D tys A nL fr lo R) (hd : decode cc pc = .ok (.getfield 7, 3)) (q0 : Nat) {a : Nat} {fs : List Value} (he : ws[q0]? = some (a, .inr (8, fs))) {v : Value} (hv : fs[1]? = some v) (hq : pc + 3 = q) (kk : V p l e R s m args below meth c D A nL cells slots Q q lv (v :: st) ws) : V p l e R s m args below meth c D A nL cells slots Q pc lv (.ref a :: st) ws := v_get F iw_X8 rfl 1 (by decide) (ALL_at 549 (by decide +kernel) rfl) hd q0 he hv hq kk
theorem gt_X8_13 (F : Fx p s m args c cc RX8 D tys A nL fr lo R) (hd : decode cc pc = .ok (.getfield 13, 3)) (q0 : Nat) {a : Nat} {fs : List Value} (he : ws[q0]? = some (a, .inr (8, fs))) {v : Value} (hv : fs[2]? = some v) (hq : pc + 3 = q) (kk : V p l e R s m args below meth c D A nL cells slots Q q lv (v :: st) ws) : V p l e R s m args below meth c D A nL cells slots Q pc lv (.ref a :: st) ws := v_get F iw_X8 rfl 2 (by decide) (ALL_at 550 (by decide +kernel) rfl) hd q0 he hv hq kk
theorem gt_X8_16 (F : Fx p s m args c cc RX8 D tys A nL fr lo R) (hd : decode cc pc = .ok (.getfield 16, 3)) (q0 : Nat) {a : Nat} {fs : List Value} (he : ws[q0]? = some (a, .inr (8, fs))) {v : Value} (hv : fs[3]? = some v) (hq : pc + 3 = q) (kk : V p l e R s m args below meth c D A nL cells slots Q q lv (v :: st) ws) : V p l e R s m args below meth c D A nL cells slots Q pc lv (.ref a :: st) ws := v_get F iw_X8 rfl 3 (by decide) (ALL_at 551 (by decide +kernel) rfl) hd q0 he hv hq kk
theorem gt_X8_19 (F : Fx p s m args c cc RX8 D tys A nL fr lo R) (hd : decode cc pc = .ok (.getfield 19, 3)) (q0 : Nat) {a : Nat} {fs : List Value} (he : ws[q0]? = some (a, .inr (8, fs))) {v : Value} (hv : fs[7]? = some v) (hq : pc + 3 = q) (kk : V p l e R s m args below meth c D A nL cells slots Q q lv (v :: st) ws) : V p l e R s m args below meth c D A nL cells slots Q pc lv (.ref a :: st) ws := v_get F iw_X8 rfl 7 (by decide) (ALL_at 555 (by decide +kernel) rfl) hd q0 he hv hq kk
theorem gt_X8_22 (F : Fx p s m args c cc RX8 D tys A nL fr lo R) (hd : decode cc pc = .ok (.getfield 22, 3)) (q0 : Nat) {a : Nat} {fs : List Value} (he : ws[q0]? = some (a, .inr (8, fs))) {v : Value} (hv : fs[8]? = some v) (hq : pc + 3 = q) (kk : V p l e R s m args below meth c D A nL cells slots Q q lv (v :: st) ws) : V p l e R s m args below meth c D A nL cells slots Q pc lv (.ref a :: st) ws := v_get F iw_X8 rfl 8 (by decide) (ALL_at 556 (by decide +kernel) rfl) hd q0 he hv hq kk
theorem gt_X8_25 (F : Fx p s m args c cc RX8 D tys A nL fr lo R) (hd : decode cc pc = .ok (.getfield 25, 3)) (q0 : Nat) {a : Nat} {fs : List Value} (he : ws[q0]? = some (a, .inr (8, fs))) {v : Value} (hv : fs[9]? = some v) (hq : pc + 3 = q) (kk : V p l e R s m args below meth c D A nL cells slots Q q lv (v :: st) ws) : V p l e R s m args below meth c D A nL cells slots Q pc lv (.ref a :: st) ws := v_get F iw_X8 rfl 9 (by decide) (ALL_at 557 (by decide +kernel) rfl) hd q0 he hv hq kk
theorem gt_X8_28 (F : Fx p s m args c cc RX8 D tys A nL fr lo R) (hd : decode cc pc = .ok (.getfield 28, 3)) (q0 : Nat) {a : Nat} {fs : List Value} (he : ws[q0]? = some (a, .inr (8, fs))) {v : Value} (hv : fs[10]? = some v) (hq : pc + 3 = q) (kk : V p l e R s m args below meth c D A nL cells slots Q q lv (v :: st) ws) : V p l e R s m args below meth c D A nL cells slots Q pc lv (.ref a :: st) ws := v_get F iw_X8 rfl 10 (by decide) (ALL_at 558 (by decide +kernel) rfl) hd q0 he hv hq kk
theorem gt_X8_31 (F : Fx p s m args c cc RX8 D tys A nL fr lo R) (hd : decode cc pc = .ok (.getfield 31, 3)) (q0 : Nat) {a : Nat} {fs : List Value} (he : ws[q0]? = some (a, .inr (8, fs))) {v : Value} (hv : fs[11]? = some v) (hq : pc + 3 = q) (kk : V p l e R s m args below meth c D A nL cells slots Q q lv (v :: st) ws) : V p l e R s m args below meth c D A nL cells slots Q pc lv (.ref a :: st) ws := v_get F iw_X8 rfl 11 (by decide) (ALL_at 559 (by decide +kernel) rfl) hd q0 he hv hq kk
theorem gt_X8_35 (F : Fx p s m args c cc RX8 D tys A nL fr lo R) (hd : decode cc pc = .ok (.getfield 35, 3)) (q0 : Nat) {a : Nat} {fs : List Value} (he : ws[q0]? = some (a, .inr (8, fs))) {v : Value} (hv : fs[12]? = some v) (hq : pc + 3 = q) (kk : V p l e R s m args below meth c D A nL cells slots Q q lv (v :: st) ws) : V p l e R s m args below meth c D A nL cells slots Q pc lv (.ref a :: st) ws := v_get F iw_X8 rfl 12 (by decide) (ALL_at 560 (by decide +kernel) rfl) hd q0 he hv hq kk
theorem gt_X8_38 (F : Fx p s m args c cc RX8 D tys A nL fr lo R) (hd : decode cc pc = .ok (.getfield 38, 3)) (q0 : Nat) {a : Nat} {fs : List Value} (he : ws[q0]? = some (a, .inr (8, fs))) {v : Value} (hv : fs[13]? = some v) (hq : pc + 3 = q) (kk : V p l e R s m args below meth c D A nL cells slots Q q lv (v :: st) ws) : V p l e R s m args below meth c D A nL cells slots Q pc lv (.ref a :: st) ws := v_get F iw_X8 rfl 13 (by decide) (ALL_at 561 (by decide +kernel) rfl) hd q0 he hv hq kk
theorem gt_X8_41 (F : Fx p s m args c cc RX8 D tys A nL fr lo R) (hd : decode cc pc = .ok (.getfield 41, 3)) (q0 : Nat) {a : Nat} {fs : List Value} (he : ws[q0]? = some (a, .inr (8, fs))) {v : Value} (hv : fs[14]? = some v) (hq : pc + 3 = q) (kk : V p l e R s m args below meth c D A nL cells slots Q q lv (v :: st) ws) : V p l e R s m args below meth c D A nL cells slots Q pc lv (.ref a :: st) ws := v_get F iw_X8 rfl 14 (by decide) (ALL_at 562 (by decide +kernel) rfl) hd q0 he hv hq kk
theorem gt_X8_44 (F : Fx p s m args c cc RX8 D tys A nL fr lo R) (hd : decode cc pc = .ok (.getfield 44, 3)) (q0 : Nat) {a : Nat} {fs : List Value} (he : ws[q0]? = some (a, .inr (8, fs))) {v : Value} (hv : fs[15]? = some v) (hq : pc + 3 = q) (kk : V p l e R s m args below meth c D A nL cells slots Q q lv (v :: st) ws) : V p l e R s m args below meth c D A nL cells slots Q pc lv (.ref a :: st) ws := v_get F iw_X8 rfl 15 (by decide) (ALL_at 563 (by decide +kernel) rfl) hd q0 he hv hq kk
theorem gt_X8_47 (F : Fx p s m args c cc RX8 D tys A nL fr lo R) (hd : decode cc pc = .ok (.getfield 47, 3)) (q0 : Nat) {a : Nat} {fs : List Value} (he : ws[q0]? = some (a, .inr (8, fs))) {v : Value} (hv : fs[17]? = some v) (hq : pc + 3 = q) (kk : V p l e R s m args below meth c D A nL cells slots Q q lv (v :: st) ws) : V p l e R s m args below meth c D A nL cells slots Q pc lv (.ref a :: st) ws := v_get F iw_X8 rfl 17 (by decide) (ALL_at 565 (by decide +kernel) rfl) hd q0 he hv hq kk
theorem gt_X8_51 (F : Fx p s m args c cc RX8 D tys A nL fr lo R) (hd : decode cc pc = .ok (.getfield 51, 3)) (q0 : Nat) {a : Nat} {fs : List Value} (he : ws[q0]? = some (a, .inr (8, fs))) {v : Value} (hv : fs[18]? = some v) (hq : pc + 3 = q) (kk : V p l e R s m args below meth c D A nL cells slots Q q lv (v :: st) ws) : V p l e R s m args below meth c D A nL cells slots Q pc lv (.ref a :: st) ws := v_get F iw_X8 rfl 18 (by decide) (ALL_at 566 (by decide +kernel) rfl) hd q0 he hv hq kk
theorem gt_X8_58 (F : Fx p s m args c cc RX8 D tys A nL fr lo R) (hd : decode cc pc = .ok (.getfield 58, 3)) (q0 : Nat) {a : Nat} {fs : List Value} (he : ws[q0]? = some (a, .inr (8, fs))) {v : Value} (hv : fs[0]? = some v) (hq : pc + 3 = q) (kk : V p l e R s m args below meth c D A nL cells slots Q q lv (v :: st) ws) : V p l e R s m args below meth c D A nL cells slots Q pc lv (.ref a :: st) ws := v_get F iw_X8 rfl 0 (by decide) (ALL_at 548 (by decide +kernel) rfl) hd q0 he hv hq kk
theorem gt_X8_62 (F : Fx p s m args c cc RX8 D tys A nL fr lo R) (hd : decode cc pc = .ok (.getfield 62, 3)) (q0 : Nat) {a : Nat} {fs : List Value} (he : ws[q0]? = some (a, .inr (8, fs))) {v : Value} (hv : fs[4]? = some v) (hq : pc + 3 = q) (kk : V p l e R s m args below meth c D A nL cells slots Q q lv (v :: st) ws) : V p l e R s m args below meth c D A nL cells slots Q pc lv (.ref a :: st) ws := v_get F iw_X8 rfl 4 (by decide) (ALL_at 552 (by decide +kernel) rfl) hd q0 he hv hq kk
theorem gt_X8_65 (F : Fx p s m args c cc RX8 D tys A nL fr lo R) (hd : decode cc pc = .ok (.getfield 65, 3)) (q0 : Nat) {a : Nat} {fs : List Value} (he : ws[q0]? = some (a, .inr (8, fs))) {v : Value} (hv : fs[5]? = some v) (hq : pc + 3 = q) (kk : V p l e R s m args below meth c D A nL cells slots Q q lv (v :: st) ws) : V p l e R s m args below meth c D A nL cells slots Q pc lv (.ref a :: st) ws := v_get F iw_X8 rfl 5 (by decide) (ALL_at 553 (by decide +kernel) rfl) hd q0 he hv hq kk
theorem gt_X8_75 (F : Fx p s m args c cc RX8 D tys A nL fr lo R) (hd : decode cc pc = .ok (.getfield 75, 3)) (q0 : Nat) {a : Nat} {fs : List Value} (he : ws[q0]? = some (a, .inr (8, fs))) {v : Value} (hv : fs[6]? = some v) (hq : pc + 3 = q) (kk : V p l e R s m args below meth c D A nL cells slots Q q lv (v :: st) ws) : V p l e R s m args below meth c D A nL cells slots Q pc lv (.ref a :: st) ws := v_get F iw_X8 rfl 6 (by decide) (ALL_at 554 (by decide +kernel) rfl) hd q0 he hv hq kk
theorem gt_X8_98 (F : Fx p s m args c cc RX8 D tys A nL fr lo R) (hd : decode cc pc = .ok (.getfield 98, 3)) (q0 : Nat) {a : Nat} {fs : List Value} (he : ws[q0]? = some (a, .inr (8, fs))) {v : Value} (hv : fs[19]? = some v) (hq : pc + 3 = q) (kk : V p l e R s m args below meth c D A nL cells slots Q q lv (v :: st) ws) : V p l e R s m args below meth c D A nL cells slots Q pc lv (.ref a :: st) ws := v_get F iw_X8 rfl 19 (by decide) (ALL_at 567 (by decide +kernel) rfl) hd q0 he hv hq kk
theorem gt_X8_102 (F : Fx p s m args c cc RX8 D tys A nL fr lo R) (hd : decode cc pc = .ok (.getfield 102, 3)) (q0 : Nat) {a : Nat} {fs : List Value} (he : ws[q0]? = some (a, .inr (8, fs))) {v : Value} (hv : fs[20]? = some v) (hq : pc + 3 = q) (kk : V p l e R s m args below meth c D A nL cells slots Q q lv (v :: st) ws) : V p l e R s m args below meth c D A nL cells slots Q pc lv (.ref a :: st) ws := v_get F iw_X8 rfl 20 (by decide) (ALL_at 568 (by decide +kernel) rfl) hd q0 he hv hq kk
theorem gt_X8_105 (F : Fx p s m args c cc RX8 D tys A nL fr lo R) (hd : decode cc pc = .ok (.getfield 105, 3)) (q0 : Nat) {a : Nat} {fs : List Value} (he : ws[q0]? = some (a, .inr (8, fs))) {v : Value} (hv : fs[21]? = some v) (hq : pc + 3 = q) (kk : V p l e R s m args below meth c D A nL cells slots Q q lv (v :: st) ws) : V p l e R s m args below meth c D A nL cells slots Q pc lv (.ref a :: st) ws := v_get F iw_X8 rfl 21 (by decide) (ALL_at 569 (by decide +kernel) rfl) hd q0 he hv hq kk
theorem gt_X8_108 (F : Fx p s m args c cc RX8 D tys A nL fr lo R) (hd : decode cc pc = .ok (.getfield 108, 3)) (q0 : Nat) {a : Nat} {fs : List Value} (he : ws[q0]? = some (a, .inr (8, fs))) {v : Value} (hv : fs[22]? = some v) (hq : pc + 3 = q) (kk : V p l e R s m args below meth c D A nL cells slots Q q lv (v :: st) ws) : V p l e R s m args below meth c D A nL cells slots Q pc lv (.ref a :: st) ws := v_get F iw_X8 rfl 22 (by decide) (ALL_at 570 (by decide +kernel) rfl) hd q0 he hv hq kk
theorem gt_X8_130 (F : Fx p s m args c cc RX8 D tys A nL fr lo R) (hd : decode cc pc = .ok (.getfield 130, 3)) (q0 : Nat) {a : Nat} {fs : List Value} (he : ws[q0]? = some (a, .inr (8, fs))) {v : Value} (hv : fs[16]? = some v) (hq : pc + 3 = q) (kk : V p l e R s m args below meth c D A nL cells slots Q q lv (v :: st) ws) : V p l e R s m args below meth c D A nL cells slots Q pc lv (.ref a :: st) ws := v_get F iw_X8 rfl 16 (by decide) (ALL_at 564 (by decide +kernel) rfl) hd q0 he hv hq kk
theorem pt_X0_7 (F : Fx p s m args c cc RX0 D tys A nL fr lo R) (hd : decode cc pc = .ok (.putfield 7, 3)) (q0 : Nat) {a : Nat} {fs : List Value} (he : ws[q0]? = some (a, .inr (0, fs))) {v : Int64} (hl0 : 7 < fs.length) (hq : pc + 3 = q) (kk : V p l e R s m args below meth c D A nL cells slots Q q lv st (ws.set q0 (a, .inr (0, fs.set 7 (.long v))))) : V p l e R s m args below meth c D A nL cells slots Q pc lv (.long v :: .ref a :: st) ws := v_put F iw_X0 rfl tyX0 tyX0_ok nmX0 7 (by decide) (ALL_at 168 (by decide +kernel) rfl) rfl hd q0 he rfl rfl hl0 hq kk
theorem pt_X0_13 (F : Fx p s m args c cc RX0 D tys A nL fr lo R) (hin2 : meth.name = "<init>") (hd : decode cc pc = .ok (.putfield 13, 3)) (q0 : Nat) {a : Nat} {fs : List Value} (he : ws[q0]? = some (a, .inr (0, fs))) {v : Nat} (hl0 : 0 < fs.length) (hq : pc + 3 = q) (kk : V p l e R s m args below meth c D A nL cells slots Q q lv st (ws.set q0 (a, .inr (0, fs.set 0 (.ref v))))) : V p l e R s m args below meth c D A nL cells slots Q pc lv (.ref v :: .ref a :: st) ws := v_putF F iw_X0 rfl tyX0 tyX0_ok nmX0 0 (by decide) (ALL_at 161 (by decide +kernel) rfl) rfl hin2 rfl hd q0 he rfl rfl hl0 hq kk
theorem pt_X0_33 (F : Fx p s m args c cc RX0 D tys A nL fr lo R) (hd : decode cc pc = .ok (.putfield 33, 3)) (q0 : Nat) {a : Nat} {fs : List Value} (he : ws[q0]? = some (a, .inr (0, fs))) {v : Int64} (hl0 : 1 < fs.length) (hq : pc + 3 = q) (kk : V p l e R s m args below meth c D A nL cells slots Q q lv st (ws.set q0 (a, .inr (0, fs.set 1 (.long v))))) : V p l e R s m args below meth c D A nL cells slots Q pc lv (.long v :: .ref a :: st) ws := v_put F iw_X0 rfl tyX0 tyX0_ok nmX0 1 (by decide) (ALL_at 162 (by decide +kernel) rfl) rfl hd q0 he rfl rfl hl0 hq kk
theorem pt_X0_36 (F : Fx p s m args c cc RX0 D tys A nL fr lo R) (hd : decode cc pc = .ok (.putfield 36, 3)) (q0 : Nat) {a : Nat} {fs : List Value} (he : ws[q0]? = some (a, .inr (0, fs))) {v : Int64} (hl0 : 2 < fs.length) (hq : pc + 3 = q) (kk : V p l e R s m args below meth c D A nL cells slots Q q lv st (ws.set q0 (a, .inr (0, fs.set 2 (.long v))))) : V p l e R s m args below meth c D A nL cells slots Q pc lv (.long v :: .ref a :: st) ws := v_put F iw_X0 rfl tyX0 tyX0_ok nmX0 2 (by decide) (ALL_at 163 (by decide +kernel) rfl) rfl hd q0 he rfl rfl hl0 hq kk
theorem pt_X0_39 (F : Fx p s m args c cc RX0 D tys A nL fr lo R) (hd : decode cc pc = .ok (.putfield 39, 3)) (q0 : Nat) {a : Nat} {fs : List Value} (he : ws[q0]? = some (a, .inr (0, fs))) {v : Int64} (hl0 : 3 < fs.length) (hq : pc + 3 = q) (kk : V p l e R s m args below meth c D A nL cells slots Q q lv st (ws.set q0 (a, .inr (0, fs.set 3 (.long v))))) : V p l e R s m args below meth c D A nL cells slots Q pc lv (.long v :: .ref a :: st) ws := v_put F iw_X0 rfl tyX0 tyX0_ok nmX0 3 (by decide) (ALL_at 164 (by decide +kernel) rfl) rfl hd q0 he rfl rfl hl0 hq kk
theorem pt_X0_42 (F : Fx p s m args c cc RX0 D tys A nL fr lo R) (hd : decode cc pc = .ok (.putfield 42, 3)) (q0 : Nat) {a : Nat} {fs : List Value} (he : ws[q0]? = some (a, .inr (0, fs))) {v : Int64} (hl0 : 4 < fs.length) (hq : pc + 3 = q) (kk : V p l e R s m args below meth c D A nL cells slots Q q lv st (ws.set q0 (a, .inr (0, fs.set 4 (.long v))))) : V p l e R s m args below meth c D A nL cells slots Q pc lv (.long v :: .ref a :: st) ws := v_put F iw_X0 rfl tyX0 tyX0_ok nmX0 4 (by decide) (ALL_at 165 (by decide +kernel) rfl) rfl hd q0 he rfl rfl hl0 hq kk
theorem pt_X0_45 (F : Fx p s m args c cc RX0 D tys A nL fr lo R) (hd : decode cc pc = .ok (.putfield 45, 3)) (q0 : Nat) {a : Nat} {fs : List Value} (he : ws[q0]? = some (a, .inr (0, fs))) {v : Int64} (hl0 : 5 < fs.length) (hq : pc + 3 = q) (kk : V p l e R s m args below meth c D A nL cells slots Q q lv st (ws.set q0 (a, .inr (0, fs.set 5 (.long v))))) : V p l e R s m args below meth c D A nL cells slots Q pc lv (.long v :: .ref a :: st) ws := v_put F iw_X0 rfl tyX0 tyX0_ok nmX0 5 (by decide) (ALL_at 166 (by decide +kernel) rfl) rfl hd q0 he rfl rfl hl0 hq kk
theorem pt_X0_48 (F : Fx p s m args c cc RX0 D tys A nL fr lo R) (hd : decode cc pc = .ok (.putfield 48, 3)) (q0 : Nat) {a : Nat} {fs : List Value} (he : ws[q0]? = some (a, .inr (0, fs))) {v : Int64} (hl0 : 6 < fs.length) (hq : pc + 3 = q) (kk : V p l e R s m args below meth c D A nL cells slots Q q lv st (ws.set q0 (a, .inr (0, fs.set 6 (.long v))))) : V p l e R s m args below meth c D A nL cells slots Q pc lv (.long v :: .ref a :: st) ws := v_put F iw_X0 rfl tyX0 tyX0_ok nmX0 6 (by decide) (ALL_at 167 (by decide +kernel) rfl) rfl hd q0 he rfl rfl hl0 hq kk
theorem pt_X0_63 (F : Fx p s m args c cc RX0 D tys A nL fr lo R) (hd : decode cc pc = .ok (.putfield 63, 3)) (q0 : Nat) {a : Nat} {fs : List Value} (he : ws[q0]? = some (a, .inr (0, fs))) {v : Int64} (hl0 : 8 < fs.length) (hq : pc + 3 = q) (kk : V p l e R s m args below meth c D A nL cells slots Q q lv st (ws.set q0 (a, .inr (0, fs.set 8 (.long v))))) : V p l e R s m args below meth c D A nL cells slots Q pc lv (.long v :: .ref a :: st) ws := v_put F iw_X0 rfl tyX0 tyX0_ok nmX0 8 (by decide) (ALL_at 170 (by decide +kernel) rfl) rfl hd q0 he rfl rfl hl0 hq kk
theorem pt_X0_66 (F : Fx p s m args c cc RX0 D tys A nL fr lo R) (hd : decode cc pc = .ok (.putfield 66, 3)) (q0 : Nat) {a : Nat} {fs : List Value} (he : ws[q0]? = some (a, .inr (0, fs))) {v : Int64} (hl0 : 9 < fs.length) (hq : pc + 3 = q) (kk : V p l e R s m args below meth c D A nL cells slots Q q lv st (ws.set q0 (a, .inr (0, fs.set 9 (.long v))))) : V p l e R s m args below meth c D A nL cells slots Q pc lv (.long v :: .ref a :: st) ws := v_put F iw_X0 rfl tyX0 tyX0_ok nmX0 9 (by decide) (ALL_at 172 (by decide +kernel) rfl) rfl hd q0 he rfl rfl hl0 hq kk
theorem pt_X0_69 (F : Fx p s m args c cc RX0 D tys A nL fr lo R) (hd : decode cc pc = .ok (.putfield 69, 3)) (q0 : Nat) {a : Nat} {fs : List Value} (he : ws[q0]? = some (a, .inr (0, fs))) {v : Int64} (hl0 : 10 < fs.length) (hq : pc + 3 = q) (kk : V p l e R s m args below meth c D A nL cells slots Q q lv st (ws.set q0 (a, .inr (0, fs.set 10 (.long v))))) : V p l e R s m args below meth c D A nL cells slots Q pc lv (.long v :: .ref a :: st) ws := v_put F iw_X0 rfl tyX0 tyX0_ok nmX0 10 (by decide) (ALL_at 174 (by decide +kernel) rfl) rfl hd q0 he rfl rfl hl0 hq kk
theorem pt_X1_7 (F : Fx p s m args c cc RX1 D tys A nL fr lo R) (hd : decode cc pc = .ok (.putfield 7, 3)) (q0 : Nat) {a : Nat} {fs : List Value} (he : ws[q0]? = some (a, .inr (1, fs))) {v : Int32} (hl0 : 0 < fs.length) (hq : pc + 3 = q) (kk : V p l e R s m args below meth c D A nL cells slots Q q lv st (ws.set q0 (a, .inr (1, fs.set 0 (.int v))))) : V p l e R s m args below meth c D A nL cells slots Q pc lv (.int v :: .ref a :: st) ws := v_put F iw_X1 rfl tyX1 tyX1_ok nmX1 0 (by decide) (ALL_at 221 (by decide +kernel) rfl) rfl hd q0 he rfl rfl hl0 hq kk
theorem pt_X1_13 (F : Fx p s m args c cc RX1 D tys A nL fr lo R) (hd : decode cc pc = .ok (.putfield 13, 3)) (q0 : Nat) {a : Nat} {fs : List Value} (he : ws[q0]? = some (a, .inr (1, fs))) {v : Int32} (hl0 : 1 < fs.length) (hq : pc + 3 = q) (kk : V p l e R s m args below meth c D A nL cells slots Q q lv st (ws.set q0 (a, .inr (1, fs.set 1 (.int v))))) : V p l e R s m args below meth c D A nL cells slots Q pc lv (.int v :: .ref a :: st) ws := v_put F iw_X1 rfl tyX1 tyX1_ok nmX1 1 (by decide) (ALL_at 223 (by decide +kernel) rfl) rfl hd q0 he rfl rfl hl0 hq kk
theorem pt_X1_16 (F : Fx p s m args c cc RX1 D tys A nL fr lo R) (hd : decode cc pc = .ok (.putfield 16, 3)) (q0 : Nat) {a : Nat} {fs : List Value} (he : ws[q0]? = some (a, .inr (1, fs))) {v : Int32} (hl0 : 2 < fs.length) (hq : pc + 3 = q) (kk : V p l e R s m args below meth c D A nL cells slots Q q lv st (ws.set q0 (a, .inr (1, fs.set 2 (.int v))))) : V p l e R s m args below meth c D A nL cells slots Q pc lv (.int v :: .ref a :: st) ws := v_put F iw_X1 rfl tyX1 tyX1_ok nmX1 2 (by decide) (ALL_at 225 (by decide +kernel) rfl) rfl hd q0 he rfl rfl hl0 hq kk
theorem pt_X1_19 (F : Fx p s m args c cc RX1 D tys A nL fr lo R) (hd : decode cc pc = .ok (.putfield 19, 3)) (q0 : Nat) {a : Nat} {fs : List Value} (he : ws[q0]? = some (a, .inr (1, fs))) {v : Int32} (hl0 : 3 < fs.length) (hq : pc + 3 = q) (kk : V p l e R s m args below meth c D A nL cells slots Q q lv st (ws.set q0 (a, .inr (1, fs.set 3 (.int v))))) : V p l e R s m args below meth c D A nL cells slots Q pc lv (.int v :: .ref a :: st) ws := v_put F iw_X1 rfl tyX1 tyX1_ok nmX1 3 (by decide) (ALL_at 227 (by decide +kernel) rfl) rfl hd q0 he rfl rfl hl0 hq kk
theorem pt_X1_22 (F : Fx p s m args c cc RX1 D tys A nL fr lo R) (hd : decode cc pc = .ok (.putfield 22, 3)) (q0 : Nat) {a : Nat} {fs : List Value} (he : ws[q0]? = some (a, .inr (1, fs))) {v : Int32} (hl0 : 4 < fs.length) (hq : pc + 3 = q) (kk : V p l e R s m args below meth c D A nL cells slots Q q lv st (ws.set q0 (a, .inr (1, fs.set 4 (.int v))))) : V p l e R s m args below meth c D A nL cells slots Q pc lv (.int v :: .ref a :: st) ws := v_put F iw_X1 rfl tyX1 tyX1_ok nmX1 4 (by decide) (ALL_at 229 (by decide +kernel) rfl) rfl hd q0 he rfl rfl hl0 hq kk
theorem pt_X2_9 (F : Fx p s m args c cc RX2 D tys A nL fr lo R) (hin2 : meth.name = "<init>") (hd : decode cc pc = .ok (.putfield 9, 3)) (q0 : Nat) {a : Nat} {fs : List Value} (he : ws[q0]? = some (a, .inr (2, fs))) {v : Nat} (hl0 : 0 < fs.length) (hq : pc + 3 = q) (kk : V p l e R s m args below meth c D A nL cells slots Q q lv st (ws.set q0 (a, .inr (2, fs.set 0 (.ref v))))) : V p l e R s m args below meth c D A nL cells slots Q pc lv (.ref v :: .ref a :: st) ws := v_putF F iw_X2 rfl tyX2 tyX2_ok nmX2 0 (by decide) (ALL_at 74 (by decide +kernel) rfl) rfl hin2 rfl hd q0 he rfl rfl hl0 hq kk
theorem pt_X2_15 (F : Fx p s m args c cc RX2 D tys A nL fr lo R) (hin2 : meth.name = "<init>") (hd : decode cc pc = .ok (.putfield 15, 3)) (q0 : Nat) {a : Nat} {fs : List Value} (he : ws[q0]? = some (a, .inr (2, fs))) {v : Nat} (hl0 : 1 < fs.length) (hq : pc + 3 = q) (kk : V p l e R s m args below meth c D A nL cells slots Q q lv st (ws.set q0 (a, .inr (2, fs.set 1 (.ref v))))) : V p l e R s m args below meth c D A nL cells slots Q pc lv (.ref v :: .ref a :: st) ws := v_putF F iw_X2 rfl tyX2 tyX2_ok nmX2 1 (by decide) (ALL_at 75 (by decide +kernel) rfl) rfl hin2 rfl hd q0 he rfl rfl hl0 hq kk
theorem pt_X2_18 (F : Fx p s m args c cc RX2 D tys A nL fr lo R) (hin2 : meth.name = "<init>") (hd : decode cc pc = .ok (.putfield 18, 3)) (q0 : Nat) {a : Nat} {fs : List Value} (he : ws[q0]? = some (a, .inr (2, fs))) {v : Nat} (hl0 : 2 < fs.length) (hq : pc + 3 = q) (kk : V p l e R s m args below meth c D A nL cells slots Q q lv st (ws.set q0 (a, .inr (2, fs.set 2 (.ref v))))) : V p l e R s m args below meth c D A nL cells slots Q pc lv (.ref v :: .ref a :: st) ws := v_putF F iw_X2 rfl tyX2 tyX2_ok nmX2 2 (by decide) (ALL_at 76 (by decide +kernel) rfl) rfl hin2 rfl hd q0 he rfl rfl hl0 hq kk
theorem pt_X2_21 (F : Fx p s m args c cc RX2 D tys A nL fr lo R) (hd : decode cc pc = .ok (.putfield 21, 3)) (q0 : Nat) {a : Nat} {fs : List Value} (he : ws[q0]? = some (a, .inr (2, fs))) {v : Int32} (hl0 : 3 < fs.length) (hq : pc + 3 = q) (kk : V p l e R s m args below meth c D A nL cells slots Q q lv st (ws.set q0 (a, .inr (2, fs.set 3 (.int v))))) : V p l e R s m args below meth c D A nL cells slots Q pc lv (.int v :: .ref a :: st) ws := v_put F iw_X2 rfl tyX2 tyX2_ok nmX2 3 (by decide) (ALL_at 77 (by decide +kernel) rfl) rfl hd q0 he rfl rfl hl0 hq kk
theorem pt_X2_25 (F : Fx p s m args c cc RX2 D tys A nL fr lo R) (hd : decode cc pc = .ok (.putfield 25, 3)) (q0 : Nat) {a : Nat} {fs : List Value} (he : ws[q0]? = some (a, .inr (2, fs))) {v : Int32} (hl0 : 4 < fs.length) (hq : pc + 3 = q) (kk : V p l e R s m args below meth c D A nL cells slots Q q lv st (ws.set q0 (a, .inr (2, fs.set 4 (.int v))))) : V p l e R s m args below meth c D A nL cells slots Q pc lv (.int v :: .ref a :: st) ws := v_put F iw_X2 rfl tyX2 tyX2_ok nmX2 4 (by decide) (ALL_at 79 (by decide +kernel) rfl) rfl hd q0 he rfl rfl hl0 hq kk
theorem pt_X3_9 (F : Fx p s m args c cc RX3 D tys A nL fr lo R) (hin2 : meth.name = "<init>") (hd : decode cc pc = .ok (.putfield 9, 3)) (q0 : Nat) {a : Nat} {fs : List Value} (he : ws[q0]? = some (a, .inr (3, fs))) {v : Nat} (hl0 : 0 < fs.length) (hq : pc + 3 = q) (kk : V p l e R s m args below meth c D A nL cells slots Q q lv st (ws.set q0 (a, .inr (3, fs.set 0 (.ref v))))) : V p l e R s m args below meth c D A nL cells slots Q pc lv (.ref v :: .ref a :: st) ws := v_putF F iw_X3 rfl tyX3 tyX3_ok nmX3 0 (by decide) (ALL_at 205 (by decide +kernel) rfl) rfl hin2 rfl hd q0 he rfl rfl hl0 hq kk
theorem pt_X3_15 (F : Fx p s m args c cc RX3 D tys A nL fr lo R) (hin2 : meth.name = "<init>") (hd : decode cc pc = .ok (.putfield 15, 3)) (q0 : Nat) {a : Nat} {fs : List Value} (he : ws[q0]? = some (a, .inr (3, fs))) {v : Nat} (hl0 : 1 < fs.length) (hq : pc + 3 = q) (kk : V p l e R s m args below meth c D A nL cells slots Q q lv st (ws.set q0 (a, .inr (3, fs.set 1 (.ref v))))) : V p l e R s m args below meth c D A nL cells slots Q pc lv (.ref v :: .ref a :: st) ws := v_putF F iw_X3 rfl tyX3 tyX3_ok nmX3 1 (by decide) (ALL_at 206 (by decide +kernel) rfl) rfl hin2 rfl hd q0 he rfl rfl hl0 hq kk
theorem pt_X3_18 (F : Fx p s m args c cc RX3 D tys A nL fr lo R) (hin2 : meth.name = "<init>") (hd : decode cc pc = .ok (.putfield 18, 3)) (q0 : Nat) {a : Nat} {fs : List Value} (he : ws[q0]? = some (a, .inr (3, fs))) {v : Nat} (hl0 : 2 < fs.length) (hq : pc + 3 = q) (kk : V p l e R s m args below meth c D A nL cells slots Q q lv st (ws.set q0 (a, .inr (3, fs.set 2 (.ref v))))) : V p l e R s m args below meth c D A nL cells slots Q pc lv (.ref v :: .ref a :: st) ws := v_putF F iw_X3 rfl tyX3 tyX3_ok nmX3 2 (by decide) (ALL_at 207 (by decide +kernel) rfl) rfl hin2 rfl hd q0 he rfl rfl hl0 hq kk
theorem pt_X4_9 (F : Fx p s m args c cc RX4 D tys A nL fr lo R) (hin2 : meth.name = "<init>") (hd : decode cc pc = .ok (.putfield 9, 3)) (q0 : Nat) {a : Nat} {fs : List Value} (he : ws[q0]? = some (a, .inr (4, fs))) {v : Nat} (hl0 : 0 < fs.length) (hq : pc + 3 = q) (kk : V p l e R s m args below meth c D A nL cells slots Q q lv st (ws.set q0 (a, .inr (4, fs.set 0 (.ref v))))) : V p l e R s m args below meth c D A nL cells slots Q pc lv (.ref v :: .ref a :: st) ws := v_putF F iw_X4 rfl tyX4 tyX4_ok nmX4 0 (by decide) (ALL_at 137 (by decide +kernel) rfl) rfl hin2 rfl hd q0 he rfl rfl hl0 hq kk
theorem pt_X4_15 (F : Fx p s m args c cc RX4 D tys A nL fr lo R) (hin2 : meth.name = "<init>") (hd : decode cc pc = .ok (.putfield 15, 3)) (q0 : Nat) {a : Nat} {fs : List Value} (he : ws[q0]? = some (a, .inr (4, fs))) {v : Nat} (hl0 : 1 < fs.length) (hq : pc + 3 = q) (kk : V p l e R s m args below meth c D A nL cells slots Q q lv st (ws.set q0 (a, .inr (4, fs.set 1 (.ref v))))) : V p l e R s m args below meth c D A nL cells slots Q pc lv (.ref v :: .ref a :: st) ws := v_putF F iw_X4 rfl tyX4 tyX4_ok nmX4 1 (by decide) (ALL_at 139 (by decide +kernel) rfl) rfl hin2 rfl hd q0 he rfl rfl hl0 hq kk
theorem pt_X4_19 (F : Fx p s m args c cc RX4 D tys A nL fr lo R) (hin2 : meth.name = "<init>") (hd : decode cc pc = .ok (.putfield 19, 3)) (q0 : Nat) {a : Nat} {fs : List Value} (he : ws[q0]? = some (a, .inr (4, fs))) {v : Nat} (hl0 : 2 < fs.length) (hq : pc + 3 = q) (kk : V p l e R s m args below meth c D A nL cells slots Q q lv st (ws.set q0 (a, .inr (4, fs.set 2 (.ref v))))) : V p l e R s m args below meth c D A nL cells slots Q pc lv (.ref v :: .ref a :: st) ws := v_putF F iw_X4 rfl tyX4 tyX4_ok nmX4 2 (by decide) (ALL_at 141 (by decide +kernel) rfl) rfl hin2 rfl hd q0 he rfl rfl hl0 hq kk
theorem pt_X4_22 (F : Fx p s m args c cc RX4 D tys A nL fr lo R) (hin2 : meth.name = "<init>") (hd : decode cc pc = .ok (.putfield 22, 3)) (q0 : Nat) {a : Nat} {fs : List Value} (he : ws[q0]? = some (a, .inr (4, fs))) {v : Nat} (hl0 : 3 < fs.length) (hq : pc + 3 = q) (kk : V p l e R s m args below meth c D A nL cells slots Q q lv st (ws.set q0 (a, .inr (4, fs.set 3 (.ref v))))) : V p l e R s m args below meth c D A nL cells slots Q pc lv (.ref v :: .ref a :: st) ws := v_putF F iw_X4 rfl tyX4 tyX4_ok nmX4 3 (by decide) (ALL_at 143 (by decide +kernel) rfl) rfl hin2 rfl hd q0 he rfl rfl hl0 hq kk
theorem pt_X5_9 (F : Fx p s m args c cc RX5 D tys A nL fr lo R) (hin2 : meth.name = "<init>") (hd : decode cc pc = .ok (.putfield 9, 3)) (q0 : Nat) {a : Nat} {fs : List Value} (he : ws[q0]? = some (a, .inr (5, fs))) {v : Nat} (hl0 : 0 < fs.length) (hq : pc + 3 = q) (kk : V p l e R s m args below meth c D A nL cells slots Q q lv st (ws.set q0 (a, .inr (5, fs.set 0 (.ref v))))) : V p l e R s m args below meth c D A nL cells slots Q pc lv (.ref v :: .ref a :: st) ws := v_putF F iw_X5 rfl tyX5 tyX5_ok nmX5 0 (by decide) (ALL_at 98 (by decide +kernel) rfl) rfl hin2 rfl hd q0 he rfl rfl hl0 hq kk
theorem pt_X5_15 (F : Fx p s m args c cc RX5 D tys A nL fr lo R) (hin2 : meth.name = "<init>") (hd : decode cc pc = .ok (.putfield 15, 3)) (q0 : Nat) {a : Nat} {fs : List Value} (he : ws[q0]? = some (a, .inr (5, fs))) {v : Nat} (hl0 : 1 < fs.length) (hq : pc + 3 = q) (kk : V p l e R s m args below meth c D A nL cells slots Q q lv st (ws.set q0 (a, .inr (5, fs.set 1 (.ref v))))) : V p l e R s m args below meth c D A nL cells slots Q pc lv (.ref v :: .ref a :: st) ws := v_putF F iw_X5 rfl tyX5 tyX5_ok nmX5 1 (by decide) (ALL_at 102 (by decide +kernel) rfl) rfl hin2 rfl hd q0 he rfl rfl hl0 hq kk
theorem pt_X5_18 (F : Fx p s m args c cc RX5 D tys A nL fr lo R) (hin2 : meth.name = "<init>") (hd : decode cc pc = .ok (.putfield 18, 3)) (q0 : Nat) {a : Nat} {fs : List Value} (he : ws[q0]? = some (a, .inr (5, fs))) {v : Nat} (hl0 : 2 < fs.length) (hq : pc + 3 = q) (kk : V p l e R s m args below meth c D A nL cells slots Q q lv st (ws.set q0 (a, .inr (5, fs.set 2 (.ref v))))) : V p l e R s m args below meth c D A nL cells slots Q pc lv (.ref v :: .ref a :: st) ws := v_putF F iw_X5 rfl tyX5 tyX5_ok nmX5 2 (by decide) (ALL_at 106 (by decide +kernel) rfl) rfl hin2 rfl hd q0 he rfl rfl hl0 hq kk
theorem pt_X5_21 (F : Fx p s m args c cc RX5 D tys A nL fr lo R) (hin2 : meth.name = "<init>") (hd : decode cc pc = .ok (.putfield 21, 3)) (q0 : Nat) {a : Nat} {fs : List Value} (he : ws[q0]? = some (a, .inr (5, fs))) {v : Nat} (hl0 : 3 < fs.length) (hq : pc + 3 = q) (kk : V p l e R s m args below meth c D A nL cells slots Q q lv st (ws.set q0 (a, .inr (5, fs.set 3 (.ref v))))) : V p l e R s m args below meth c D A nL cells slots Q pc lv (.ref v :: .ref a :: st) ws := v_putF F iw_X5 rfl tyX5 tyX5_ok nmX5 3 (by decide) (ALL_at 109 (by decide +kernel) rfl) rfl hin2 rfl hd q0 he rfl rfl hl0 hq kk
theorem pt_X5_24 (F : Fx p s m args c cc RX5 D tys A nL fr lo R) (hd : decode cc pc = .ok (.putfield 24, 3)) (q0 : Nat) {a : Nat} {fs : List Value} (he : ws[q0]? = some (a, .inr (5, fs))) {v : Int32} (hl0 : 4 < fs.length) (hq : pc + 3 = q) (kk : V p l e R s m args below meth c D A nL cells slots Q q lv st (ws.set q0 (a, .inr (5, fs.set 4 (.int v))))) : V p l e R s m args below meth c D A nL cells slots Q pc lv (.int v :: .ref a :: st) ws := v_put F iw_X5 rfl tyX5 tyX5_ok nmX5 4 (by decide) (ALL_at 112 (by decide +kernel) rfl) rfl hd q0 he rfl rfl hl0 hq kk
theorem pt_X5_28 (F : Fx p s m args c cc RX5 D tys A nL fr lo R) (hd : decode cc pc = .ok (.putfield 28, 3)) (q0 : Nat) {a : Nat} {fs : List Value} (he : ws[q0]? = some (a, .inr (5, fs))) {v : Int32} (hl0 : 5 < fs.length) (hq : pc + 3 = q) (kk : V p l e R s m args below meth c D A nL cells slots Q q lv st (ws.set q0 (a, .inr (5, fs.set 5 (.int v))))) : V p l e R s m args below meth c D A nL cells slots Q pc lv (.int v :: .ref a :: st) ws := v_put F iw_X5 rfl tyX5 tyX5_ok nmX5 5 (by decide) (ALL_at 114 (by decide +kernel) rfl) rfl hd q0 he rfl rfl hl0 hq kk
theorem pt_X6_9 (F : Fx p s m args c cc RX6 D tys A nL fr lo R) (hin2 : meth.name = "<init>") (hd : decode cc pc = .ok (.putfield 9, 3)) (q0 : Nat) {a : Nat} {fs : List Value} (he : ws[q0]? = some (a, .inr (6, fs))) {v : Nat} (hl0 : 0 < fs.length) (hq : pc + 3 = q) (kk : V p l e R s m args below meth c D A nL cells slots Q q lv st (ws.set q0 (a, .inr (6, fs.set 0 (.ref v))))) : V p l e R s m args below meth c D A nL cells slots Q pc lv (.ref v :: .ref a :: st) ws := v_putF F iw_X6 rfl tyX6 tyX6_ok nmX6 0 (by decide) (ALL_at 248 (by decide +kernel) rfl) rfl hin2 rfl hd q0 he rfl rfl hl0 hq kk
theorem pt_X6_15 (F : Fx p s m args c cc RX6 D tys A nL fr lo R) (hin2 : meth.name = "<init>") (hd : decode cc pc = .ok (.putfield 15, 3)) (q0 : Nat) {a : Nat} {fs : List Value} (he : ws[q0]? = some (a, .inr (6, fs))) {v : Nat} (hl0 : 1 < fs.length) (hq : pc + 3 = q) (kk : V p l e R s m args below meth c D A nL cells slots Q q lv st (ws.set q0 (a, .inr (6, fs.set 1 (.ref v))))) : V p l e R s m args below meth c D A nL cells slots Q pc lv (.ref v :: .ref a :: st) ws := v_putF F iw_X6 rfl tyX6 tyX6_ok nmX6 1 (by decide) (ALL_at 250 (by decide +kernel) rfl) rfl hin2 rfl hd q0 he rfl rfl hl0 hq kk
theorem pt_X6_18 (F : Fx p s m args c cc RX6 D tys A nL fr lo R) (hd : decode cc pc = .ok (.putfield 18, 3)) (q0 : Nat) {a : Nat} {fs : List Value} (he : ws[q0]? = some (a, .inr (6, fs))) {v : Int32} (hl0 : 2 < fs.length) (hq : pc + 3 = q) (kk : V p l e R s m args below meth c D A nL cells slots Q q lv st (ws.set q0 (a, .inr (6, fs.set 2 (.int v))))) : V p l e R s m args below meth c D A nL cells slots Q pc lv (.int v :: .ref a :: st) ws := v_put F iw_X6 rfl tyX6 tyX6_ok nmX6 2 (by decide) (ALL_at 252 (by decide +kernel) rfl) rfl hd q0 he rfl rfl hl0 hq kk
theorem pt_X7_12 (F : Fx p s m args c cc RX7 D tys A nL fr lo R) (hin2 : meth.name = "<init>") (hd : decode cc pc = .ok (.putfield 12, 3)) (q0 : Nat) {a : Nat} {fs : List Value} (he : ws[q0]? = some (a, .inr (7, fs))) {v : Nat} (hl0 : 0 < fs.length) (hq : pc + 3 = q) (kk : V p l e R s m args below meth c D A nL cells slots Q q lv st (ws.set q0 (a, .inr (7, fs.set 0 (.ref v))))) : V p l e R s m args below meth c D A nL cells slots Q pc lv (.ref v :: .ref a :: st) ws := v_putF F iw_X7 rfl tyX7 tyX7_ok nmX7 0 (by decide) (ALL_at 261 (by decide +kernel) rfl) rfl hin2 rfl hd q0 he rfl rfl hl0 hq kk
theorem pt_X7_19 (F : Fx p s m args c cc RX7 D tys A nL fr lo R) (hin2 : meth.name = "<init>") (hd : decode cc pc = .ok (.putfield 19, 3)) (q0 : Nat) {a : Nat} {fs : List Value} (he : ws[q0]? = some (a, .inr (7, fs))) {v : Nat} (hl0 : 1 < fs.length) (hq : pc + 3 = q) (kk : V p l e R s m args below meth c D A nL cells slots Q q lv st (ws.set q0 (a, .inr (7, fs.set 1 (.ref v))))) : V p l e R s m args below meth c D A nL cells slots Q pc lv (.ref v :: .ref a :: st) ws := v_putF F iw_X7 rfl tyX7 tyX7_ok nmX7 1 (by decide) (ALL_at 262 (by decide +kernel) rfl) rfl hin2 rfl hd q0 he rfl rfl hl0 hq kk
theorem pt_X7_26 (F : Fx p s m args c cc RX7 D tys A nL fr lo R) (hin2 : meth.name = "<init>") (hd : decode cc pc = .ok (.putfield 26, 3)) (q0 : Nat) {a : Nat} {fs : List Value} (he : ws[q0]? = some (a, .inr (7, fs))) {v : Nat} (hl0 : 2 < fs.length) (hq : pc + 3 = q) (kk : V p l e R s m args below meth c D A nL cells slots Q q lv st (ws.set q0 (a, .inr (7, fs.set 2 (.ref v))))) : V p l e R s m args below meth c D A nL cells slots Q pc lv (.ref v :: .ref a :: st) ws := v_putF F iw_X7 rfl tyX7 tyX7_ok nmX7 2 (by decide) (ALL_at 263 (by decide +kernel) rfl) rfl hin2 rfl hd q0 he rfl rfl hl0 hq kk
theorem pt_X7_35 (F : Fx p s m args c cc RX7 D tys A nL fr lo R) (hin2 : meth.name = "<init>") (hd : decode cc pc = .ok (.putfield 35, 3)) (q0 : Nat) {a : Nat} {fs : List Value} (he : ws[q0]? = some (a, .inr (7, fs))) {v : Nat} (hl0 : 3 < fs.length) (hq : pc + 3 = q) (kk : V p l e R s m args below meth c D A nL cells slots Q q lv st (ws.set q0 (a, .inr (7, fs.set 3 (.ref v))))) : V p l e R s m args below meth c D A nL cells slots Q pc lv (.ref v :: .ref a :: st) ws := v_putF F iw_X7 rfl tyX7 tyX7_ok nmX7 3 (by decide) (ALL_at 264 (by decide +kernel) rfl) rfl hin2 rfl hd q0 he rfl rfl hl0 hq kk
theorem pt_X7_42 (F : Fx p s m args c cc RX7 D tys A nL fr lo R) (hin2 : meth.name = "<init>") (hd : decode cc pc = .ok (.putfield 42, 3)) (q0 : Nat) {a : Nat} {fs : List Value} (he : ws[q0]? = some (a, .inr (7, fs))) {v : Nat} (hl0 : 4 < fs.length) (hq : pc + 3 = q) (kk : V p l e R s m args below meth c D A nL cells slots Q q lv st (ws.set q0 (a, .inr (7, fs.set 4 (.ref v))))) : V p l e R s m args below meth c D A nL cells slots Q pc lv (.ref v :: .ref a :: st) ws := v_putF F iw_X7 rfl tyX7 tyX7_ok nmX7 4 (by decide) (ALL_at 265 (by decide +kernel) rfl) rfl hin2 rfl hd q0 he rfl rfl hl0 hq kk
theorem pt_X7_49 (F : Fx p s m args c cc RX7 D tys A nL fr lo R) (hin2 : meth.name = "<init>") (hd : decode cc pc = .ok (.putfield 49, 3)) (q0 : Nat) {a : Nat} {fs : List Value} (he : ws[q0]? = some (a, .inr (7, fs))) {v : Nat} (hl0 : 5 < fs.length) (hq : pc + 3 = q) (kk : V p l e R s m args below meth c D A nL cells slots Q q lv st (ws.set q0 (a, .inr (7, fs.set 5 (.ref v))))) : V p l e R s m args below meth c D A nL cells slots Q pc lv (.ref v :: .ref a :: st) ws := v_putF F iw_X7 rfl tyX7 tyX7_ok nmX7 5 (by decide) (ALL_at 266 (by decide +kernel) rfl) rfl hin2 rfl hd q0 he rfl rfl hl0 hq kk
theorem pt_X7_56 (F : Fx p s m args c cc RX7 D tys A nL fr lo R) (hin2 : meth.name = "<init>") (hd : decode cc pc = .ok (.putfield 56, 3)) (q0 : Nat) {a : Nat} {fs : List Value} (he : ws[q0]? = some (a, .inr (7, fs))) {v : Nat} (hl0 : 6 < fs.length) (hq : pc + 3 = q) (kk : V p l e R s m args below meth c D A nL cells slots Q q lv st (ws.set q0 (a, .inr (7, fs.set 6 (.ref v))))) : V p l e R s m args below meth c D A nL cells slots Q pc lv (.ref v :: .ref a :: st) ws := v_putF F iw_X7 rfl tyX7 tyX7_ok nmX7 6 (by decide) (ALL_at 267 (by decide +kernel) rfl) rfl hin2 rfl hd q0 he rfl rfl hl0 hq kk
theorem pt_X7_60 (F : Fx p s m args c cc RX7 D tys A nL fr lo R) (hd : decode cc pc = .ok (.putfield 60, 3)) (q0 : Nat) {a : Nat} {fs : List Value} (he : ws[q0]? = some (a, .inr (7, fs))) {v : Int32} (hl0 : 7 < fs.length) (hq : pc + 3 = q) (kk : V p l e R s m args below meth c D A nL cells slots Q q lv st (ws.set q0 (a, .inr (7, fs.set 7 (.int v))))) : V p l e R s m args below meth c D A nL cells slots Q pc lv (.int v :: .ref a :: st) ws := v_put F iw_X7 rfl tyX7 tyX7_ok nmX7 7 (by decide) (ALL_at 268 (by decide +kernel) rfl) rfl hd q0 he rfl rfl hl0 hq kk
theorem pt_X8_7 (F : Fx p s m args c cc RX8 D tys A nL fr lo R) (hin2 : meth.name = "<init>") (hd : decode cc pc = .ok (.putfield 7, 3)) (q0 : Nat) {a : Nat} {fs : List Value} (he : ws[q0]? = some (a, .inr (8, fs))) {v : Nat} (hl0 : 1 < fs.length) (hq : pc + 3 = q) (kk : V p l e R s m args below meth c D A nL cells slots Q q lv st (ws.set q0 (a, .inr (8, fs.set 1 (.ref v))))) : V p l e R s m args below meth c D A nL cells slots Q pc lv (.ref v :: .ref a :: st) ws := v_putF F iw_X8 rfl tyX8 tyX8_ok nmX8 1 (by decide) (ALL_at 549 (by decide +kernel) rfl) rfl hin2 rfl hd q0 he rfl rfl hl0 hq kk
theorem pt_X8_13 (F : Fx p s m args c cc RX8 D tys A nL fr lo R) (hin2 : meth.name = "<init>") (hd : decode cc pc = .ok (.putfield 13, 3)) (q0 : Nat) {a : Nat} {fs : List Value} (he : ws[q0]? = some (a, .inr (8, fs))) {v : Nat} (hl0 : 2 < fs.length) (hq : pc + 3 = q) (kk : V p l e R s m args below meth c D A nL cells slots Q q lv st (ws.set q0 (a, .inr (8, fs.set 2 (.ref v))))) : V p l e R s m args below meth c D A nL cells slots Q pc lv (.ref v :: .ref a :: st) ws := v_putF F iw_X8 rfl tyX8 tyX8_ok nmX8 2 (by decide) (ALL_at 550 (by decide +kernel) rfl) rfl hin2 rfl hd q0 he rfl rfl hl0 hq kk
theorem pt_X8_16 (F : Fx p s m args c cc RX8 D tys A nL fr lo R) (hin2 : meth.name = "<init>") (hd : decode cc pc = .ok (.putfield 16, 3)) (q0 : Nat) {a : Nat} {fs : List Value} (he : ws[q0]? = some (a, .inr (8, fs))) {v : Nat} (hl0 : 3 < fs.length) (hq : pc + 3 = q) (kk : V p l e R s m args below meth c D A nL cells slots Q q lv st (ws.set q0 (a, .inr (8, fs.set 3 (.ref v))))) : V p l e R s m args below meth c D A nL cells slots Q pc lv (.ref v :: .ref a :: st) ws := v_putF F iw_X8 rfl tyX8 tyX8_ok nmX8 3 (by decide) (ALL_at 551 (by decide +kernel) rfl) rfl hin2 rfl hd q0 he rfl rfl hl0 hq kk
theorem pt_X8_19 (F : Fx p s m args c cc RX8 D tys A nL fr lo R) (hin2 : meth.name = "<init>") (hd : decode cc pc = .ok (.putfield 19, 3)) (q0 : Nat) {a : Nat} {fs : List Value} (he : ws[q0]? = some (a, .inr (8, fs))) {v : Nat} (hl0 : 7 < fs.length) (hq : pc + 3 = q) (kk : V p l e R s m args below meth c D A nL cells slots Q q lv st (ws.set q0 (a, .inr (8, fs.set 7 (.ref v))))) : V p l e R s m args below meth c D A nL cells slots Q pc lv (.ref v :: .ref a :: st) ws := v_putF F iw_X8 rfl tyX8 tyX8_ok nmX8 7 (by decide) (ALL_at 555 (by decide +kernel) rfl) rfl hin2 rfl hd q0 he rfl rfl hl0 hq kk
theorem pt_X8_22 (F : Fx p s m args c cc RX8 D tys A nL fr lo R) (hin2 : meth.name = "<init>") (hd : decode cc pc = .ok (.putfield 22, 3)) (q0 : Nat) {a : Nat} {fs : List Value} (he : ws[q0]? = some (a, .inr (8, fs))) {v : Nat} (hl0 : 8 < fs.length) (hq : pc + 3 = q) (kk : V p l e R s m args below meth c D A nL cells slots Q q lv st (ws.set q0 (a, .inr (8, fs.set 8 (.ref v))))) : V p l e R s m args below meth c D A nL cells slots Q pc lv (.ref v :: .ref a :: st) ws := v_putF F iw_X8 rfl tyX8 tyX8_ok nmX8 8 (by decide) (ALL_at 556 (by decide +kernel) rfl) rfl hin2 rfl hd q0 he rfl rfl hl0 hq kk
theorem pt_X8_25 (F : Fx p s m args c cc RX8 D tys A nL fr lo R) (hin2 : meth.name = "<init>") (hd : decode cc pc = .ok (.putfield 25, 3)) (q0 : Nat) {a : Nat} {fs : List Value} (he : ws[q0]? = some (a, .inr (8, fs))) {v : Nat} (hl0 : 9 < fs.length) (hq : pc + 3 = q) (kk : V p l e R s m args below meth c D A nL cells slots Q q lv st (ws.set q0 (a, .inr (8, fs.set 9 (.ref v))))) : V p l e R s m args below meth c D A nL cells slots Q pc lv (.ref v :: .ref a :: st) ws := v_putF F iw_X8 rfl tyX8 tyX8_ok nmX8 9 (by decide) (ALL_at 557 (by decide +kernel) rfl) rfl hin2 rfl hd q0 he rfl rfl hl0 hq kk
theorem pt_X8_28 (F : Fx p s m args c cc RX8 D tys A nL fr lo R) (hin2 : meth.name = "<init>") (hd : decode cc pc = .ok (.putfield 28, 3)) (q0 : Nat) {a : Nat} {fs : List Value} (he : ws[q0]? = some (a, .inr (8, fs))) {v : Nat} (hl0 : 10 < fs.length) (hq : pc + 3 = q) (kk : V p l e R s m args below meth c D A nL cells slots Q q lv st (ws.set q0 (a, .inr (8, fs.set 10 (.ref v))))) : V p l e R s m args below meth c D A nL cells slots Q pc lv (.ref v :: .ref a :: st) ws := v_putF F iw_X8 rfl tyX8 tyX8_ok nmX8 10 (by decide) (ALL_at 558 (by decide +kernel) rfl) rfl hin2 rfl hd q0 he rfl rfl hl0 hq kk
theorem pt_X8_31 (F : Fx p s m args c cc RX8 D tys A nL fr lo R) (hin2 : meth.name = "<init>") (hd : decode cc pc = .ok (.putfield 31, 3)) (q0 : Nat) {a : Nat} {fs : List Value} (he : ws[q0]? = some (a, .inr (8, fs))) {v : Nat} (hl0 : 11 < fs.length) (hq : pc + 3 = q) (kk : V p l e R s m args below meth c D A nL cells slots Q q lv st (ws.set q0 (a, .inr (8, fs.set 11 (.ref v))))) : V p l e R s m args below meth c D A nL cells slots Q pc lv (.ref v :: .ref a :: st) ws := v_putF F iw_X8 rfl tyX8 tyX8_ok nmX8 11 (by decide) (ALL_at 559 (by decide +kernel) rfl) rfl hin2 rfl hd q0 he rfl rfl hl0 hq kk
theorem pt_X8_35 (F : Fx p s m args c cc RX8 D tys A nL fr lo R) (hin2 : meth.name = "<init>") (hd : decode cc pc = .ok (.putfield 35, 3)) (q0 : Nat) {a : Nat} {fs : List Value} (he : ws[q0]? = some (a, .inr (8, fs))) {v : Nat} (hl0 : 12 < fs.length) (hq : pc + 3 = q) (kk : V p l e R s m args below meth c D A nL cells slots Q q lv st (ws.set q0 (a, .inr (8, fs.set 12 (.ref v))))) : V p l e R s m args below meth c D A nL cells slots Q pc lv (.ref v :: .ref a :: st) ws := v_putF F iw_X8 rfl tyX8 tyX8_ok nmX8 12 (by decide) (ALL_at 560 (by decide +kernel) rfl) rfl hin2 rfl hd q0 he rfl rfl hl0 hq kk
theorem pt_X8_38 (F : Fx p s m args c cc RX8 D tys A nL fr lo R) (hin2 : meth.name = "<init>") (hd : decode cc pc = .ok (.putfield 38, 3)) (q0 : Nat) {a : Nat} {fs : List Value} (he : ws[q0]? = some (a, .inr (8, fs))) {v : Nat} (hl0 : 13 < fs.length) (hq : pc + 3 = q) (kk : V p l e R s m args below meth c D A nL cells slots Q q lv st (ws.set q0 (a, .inr (8, fs.set 13 (.ref v))))) : V p l e R s m args below meth c D A nL cells slots Q pc lv (.ref v :: .ref a :: st) ws := v_putF F iw_X8 rfl tyX8 tyX8_ok nmX8 13 (by decide) (ALL_at 561 (by decide +kernel) rfl) rfl hin2 rfl hd q0 he rfl rfl hl0 hq kk
theorem pt_X8_41 (F : Fx p s m args c cc RX8 D tys A nL fr lo R) (hin2 : meth.name = "<init>") (hd : decode cc pc = .ok (.putfield 41, 3)) (q0 : Nat) {a : Nat} {fs : List Value} (he : ws[q0]? = some (a, .inr (8, fs))) {v : Nat} (hl0 : 14 < fs.length) (hq : pc + 3 = q) (kk : V p l e R s m args below meth c D A nL cells slots Q q lv st (ws.set q0 (a, .inr (8, fs.set 14 (.ref v))))) : V p l e R s m args below meth c D A nL cells slots Q pc lv (.ref v :: .ref a :: st) ws := v_putF F iw_X8 rfl tyX8 tyX8_ok nmX8 14 (by decide) (ALL_at 562 (by decide +kernel) rfl) rfl hin2 rfl hd q0 he rfl rfl hl0 hq kk
theorem pt_X8_44 (F : Fx p s m args c cc RX8 D tys A nL fr lo R) (hin2 : meth.name = "<init>") (hd : decode cc pc = .ok (.putfield 44, 3)) (q0 : Nat) {a : Nat} {fs : List Value} (he : ws[q0]? = some (a, .inr (8, fs))) {v : Nat} (hl0 : 15 < fs.length) (hq : pc + 3 = q) (kk : V p l e R s m args below meth c D A nL cells slots Q q lv st (ws.set q0 (a, .inr (8, fs.set 15 (.ref v))))) : V p l e R s m args below meth c D A nL cells slots Q pc lv (.ref v :: .ref a :: st) ws := v_putF F iw_X8 rfl tyX8 tyX8_ok nmX8 15 (by decide) (ALL_at 563 (by decide +kernel) rfl) rfl hin2 rfl hd q0 he rfl rfl hl0 hq kk
theorem pt_X8_47 (F : Fx p s m args c cc RX8 D tys A nL fr lo R) (hin2 : meth.name = "<init>") (hd : decode cc pc = .ok (.putfield 47, 3)) (q0 : Nat) {a : Nat} {fs : List Value} (he : ws[q0]? = some (a, .inr (8, fs))) {v : Nat} (hl0 : 17 < fs.length) (hq : pc + 3 = q) (kk : V p l e R s m args below meth c D A nL cells slots Q q lv st (ws.set q0 (a, .inr (8, fs.set 17 (.ref v))))) : V p l e R s m args below meth c D A nL cells slots Q pc lv (.ref v :: .ref a :: st) ws := v_putF F iw_X8 rfl tyX8 tyX8_ok nmX8 17 (by decide) (ALL_at 565 (by decide +kernel) rfl) rfl hin2 rfl hd q0 he rfl rfl hl0 hq kk
theorem pt_X8_51 (F : Fx p s m args c cc RX8 D tys A nL fr lo R) (hin2 : meth.name = "<init>") (hd : decode cc pc = .ok (.putfield 51, 3)) (q0 : Nat) {a : Nat} {fs : List Value} (he : ws[q0]? = some (a, .inr (8, fs))) {v : Nat} (hl0 : 18 < fs.length) (hq : pc + 3 = q) (kk : V p l e R s m args below meth c D A nL cells slots Q q lv st (ws.set q0 (a, .inr (8, fs.set 18 (.ref v))))) : V p l e R s m args below meth c D A nL cells slots Q pc lv (.ref v :: .ref a :: st) ws := v_putF F iw_X8 rfl tyX8 tyX8_ok nmX8 18 (by decide) (ALL_at 566 (by decide +kernel) rfl) rfl hin2 rfl hd q0 he rfl rfl hl0 hq kk
theorem pt_X8_58 (F : Fx p s m args c cc RX8 D tys A nL fr lo R) (hd : decode cc pc = .ok (.putfield 58, 3)) (q0 : Nat) {a : Nat} {fs : List Value} (he : ws[q0]? = some (a, .inr (8, fs))) {v : Int32} (hl0 : 0 < fs.length) (hq : pc + 3 = q) (kk : V p l e R s m args below meth c D A nL cells slots Q q lv st (ws.set q0 (a, .inr (8, fs.set 0 (.int v))))) : V p l e R s m args below meth c D A nL cells slots Q pc lv (.int v :: .ref a :: st) ws := v_put F iw_X8 rfl tyX8 tyX8_ok nmX8 0 (by decide) (ALL_at 548 (by decide +kernel) rfl) rfl hd q0 he rfl rfl hl0 hq kk
theorem pt_X8_62 (F : Fx p s m args c cc RX8 D tys A nL fr lo R) (hd : decode cc pc = .ok (.putfield 62, 3)) (q0 : Nat) {a : Nat} {fs : List Value} (he : ws[q0]? = some (a, .inr (8, fs))) {v : Int32} (hl0 : 4 < fs.length) (hq : pc + 3 = q) (kk : V p l e R s m args below meth c D A nL cells slots Q q lv st (ws.set q0 (a, .inr (8, fs.set 4 (.int v))))) : V p l e R s m args below meth c D A nL cells slots Q pc lv (.int v :: .ref a :: st) ws := v_put F iw_X8 rfl tyX8 tyX8_ok nmX8 4 (by decide) (ALL_at 552 (by decide +kernel) rfl) rfl hd q0 he rfl rfl hl0 hq kk
theorem pt_X8_65 (F : Fx p s m args c cc RX8 D tys A nL fr lo R) (hd : decode cc pc = .ok (.putfield 65, 3)) (q0 : Nat) {a : Nat} {fs : List Value} (he : ws[q0]? = some (a, .inr (8, fs))) {v : Int32} (hl0 : 5 < fs.length) (hq : pc + 3 = q) (kk : V p l e R s m args below meth c D A nL cells slots Q q lv st (ws.set q0 (a, .inr (8, fs.set 5 (.int v))))) : V p l e R s m args below meth c D A nL cells slots Q pc lv (.int v :: .ref a :: st) ws := v_put F iw_X8 rfl tyX8 tyX8_ok nmX8 5 (by decide) (ALL_at 553 (by decide +kernel) rfl) rfl hd q0 he rfl rfl hl0 hq kk
theorem pt_X8_75 (F : Fx p s m args c cc RX8 D tys A nL fr lo R) (hd : decode cc pc = .ok (.putfield 75, 3)) (q0 : Nat) {a : Nat} {fs : List Value} (he : ws[q0]? = some (a, .inr (8, fs))) {v : Int32} (hl0 : 6 < fs.length) (hq : pc + 3 = q) (kk : V p l e R s m args below meth c D A nL cells slots Q q lv st (ws.set q0 (a, .inr (8, fs.set 6 (.int v))))) : V p l e R s m args below meth c D A nL cells slots Q pc lv (.int v :: .ref a :: st) ws := v_put F iw_X8 rfl tyX8 tyX8_ok nmX8 6 (by decide) (ALL_at 554 (by decide +kernel) rfl) rfl hd q0 he rfl rfl hl0 hq kk
theorem pt_X8_98 (F : Fx p s m args c cc RX8 D tys A nL fr lo R) (hd : decode cc pc = .ok (.putfield 98, 3)) (q0 : Nat) {a : Nat} {fs : List Value} (he : ws[q0]? = some (a, .inr (8, fs))) {v : Int64} (hl0 : 19 < fs.length) (hq : pc + 3 = q) (kk : V p l e R s m args below meth c D A nL cells slots Q q lv st (ws.set q0 (a, .inr (8, fs.set 19 (.long v))))) : V p l e R s m args below meth c D A nL cells slots Q pc lv (.long v :: .ref a :: st) ws := v_put F iw_X8 rfl tyX8 tyX8_ok nmX8 19 (by decide) (ALL_at 567 (by decide +kernel) rfl) rfl hd q0 he rfl rfl hl0 hq kk
theorem pt_X8_102 (F : Fx p s m args c cc RX8 D tys A nL fr lo R) (hd : decode cc pc = .ok (.putfield 102, 3)) (q0 : Nat) {a : Nat} {fs : List Value} (he : ws[q0]? = some (a, .inr (8, fs))) {v : Int64} (hl0 : 20 < fs.length) (hq : pc + 3 = q) (kk : V p l e R s m args below meth c D A nL cells slots Q q lv st (ws.set q0 (a, .inr (8, fs.set 20 (.long v))))) : V p l e R s m args below meth c D A nL cells slots Q pc lv (.long v :: .ref a :: st) ws := v_put F iw_X8 rfl tyX8 tyX8_ok nmX8 20 (by decide) (ALL_at 568 (by decide +kernel) rfl) rfl hd q0 he rfl rfl hl0 hq kk
theorem pt_X8_105 (F : Fx p s m args c cc RX8 D tys A nL fr lo R) (hd : decode cc pc = .ok (.putfield 105, 3)) (q0 : Nat) {a : Nat} {fs : List Value} (he : ws[q0]? = some (a, .inr (8, fs))) {v : Int64} (hl0 : 21 < fs.length) (hq : pc + 3 = q) (kk : V p l e R s m args below meth c D A nL cells slots Q q lv st (ws.set q0 (a, .inr (8, fs.set 21 (.long v))))) : V p l e R s m args below meth c D A nL cells slots Q pc lv (.long v :: .ref a :: st) ws := v_put F iw_X8 rfl tyX8 tyX8_ok nmX8 21 (by decide) (ALL_at 569 (by decide +kernel) rfl) rfl hd q0 he rfl rfl hl0 hq kk
theorem pt_X8_108 (F : Fx p s m args c cc RX8 D tys A nL fr lo R) (hd : decode cc pc = .ok (.putfield 108, 3)) (q0 : Nat) {a : Nat} {fs : List Value} (he : ws[q0]? = some (a, .inr (8, fs))) {v : Int64} (hl0 : 22 < fs.length) (hq : pc + 3 = q) (kk : V p l e R s m args below meth c D A nL cells slots Q q lv st (ws.set q0 (a, .inr (8, fs.set 22 (.long v))))) : V p l e R s m args below meth c D A nL cells slots Q pc lv (.long v :: .ref a :: st) ws := v_put F iw_X8 rfl tyX8 tyX8_ok nmX8 22 (by decide) (ALL_at 570 (by decide +kernel) rfl) rfl hd q0 he rfl rfl hl0 hq kk
theorem pt_X8_130 (F : Fx p s m args c cc RX8 D tys A nL fr lo R) (hd : decode cc pc = .ok (.putfield 130, 3)) (q0 : Nat) {a : Nat} {fs : List Value} (he : ws[q0]? = some (a, .inr (8, fs))) {v : Int32} (hl0 : 16 < fs.length) (hq : pc + 3 = q) (kk : V p l e R s m args below meth c D A nL cells slots Q q lv st (ws.set q0 (a, .inr (8, fs.set 16 (.int v))))) : V p l e R s m args below meth c D A nL cells slots Q pc lv (.int v :: .ref a :: st) ws := v_put F iw_X8 rfl tyX8 tyX8_ok nmX8 16 (by decide) (ALL_at 564 (by decide +kernel) rfl) rfl hd q0 he rfl rfl hl0 hq kk
end LK
theorem co_X0_init : Cond.code yX0_init cX0_init 2 none ∈ ALL := (ALL_at 159 (by decide +kernel) rfl)
theorem im_X0_init : Cond.instanceMethod yX0_init ∈ ALL := (ALL_at 158 (by decide +kernel) rfl)
theorem sd_X0_init : yX0_init.cls ≠ "java/lang/invoke/MethodHandle" ∧ yX0_init.cls ≠ "java/lang/invoke/VarHandle" ∧ (parseMethodDescriptor yX0_init.desc).map (fun d => d.parameters.length) = some 1 := by decide +kernel
theorem co_X0_standOn : Cond.code yX0_standOn cX0_standOn 18 (some .boolean) ∈ ALL := (ALL_at 421 (by decide +kernel) rfl)
theorem im_X0_standOn : Cond.instanceMethod yX0_standOn ∈ ALL := (ALL_at 420 (by decide +kernel) rfl)
theorem se_X0_standOn : Cond.selects RX0 yX0_standOn yX0_standOn ∈ ALL := (ALL_at 17 (by decide +kernel) rfl)
theorem sd_X0_standOn : yX0_standOn.cls ≠ "java/lang/invoke/MethodHandle" ∧ yX0_standOn.cls ≠ "java/lang/invoke/VarHandle" ∧ (parseMethodDescriptor yX0_standOn.desc).map (fun d => d.parameters.length) = some 1 := by decide +kernel
theorem co_X0_take : Cond.code yX0_take cX0_take 9 none ∈ ALL := (ALL_at 425 (by decide +kernel) rfl)
theorem im_X0_take : Cond.instanceMethod yX0_take ∈ ALL := (ALL_at 424 (by decide +kernel) rfl)
theorem se_X0_take : Cond.selects RX0 yX0_take yX0_take ∈ ALL := (ALL_at 18 (by decide +kernel) rfl)
theorem sd_X0_take : yX0_take.cls ≠ "java/lang/invoke/MethodHandle" ∧ yX0_take.cls ≠ "java/lang/invoke/VarHandle" ∧ (parseMethodDescriptor yX0_take.desc).map (fun d => d.parameters.length) = some 2 := by decide +kernel
theorem co_X0_share : Cond.code yX0_share cX0_share 2 (some .long) ∈ ALL := (ALL_at 443 (by decide +kernel) rfl)
theorem im_X0_share : Cond.instanceMethod yX0_share ∈ ALL := (ALL_at 442 (by decide +kernel) rfl)
theorem se_X0_share : Cond.selects RX0 yX0_share yX0_share ∈ ALL := (ALL_at 21 (by decide +kernel) rfl)
theorem sd_X0_share : yX0_share.cls ≠ "java/lang/invoke/MethodHandle" ∧ yX0_share.cls ≠ "java/lang/invoke/VarHandle" ∧ (parseMethodDescriptor yX0_share.desc).map (fun d => d.parameters.length) = some 1 := by decide +kernel
theorem co_X1_init : Cond.code yX1_init cX1_init 1 none ∈ ALL := (ALL_at 219 (by decide +kernel) rfl)
theorem im_X1_init : Cond.instanceMethod yX1_init ∈ ALL := (ALL_at 218 (by decide +kernel) rfl)
theorem sd_X1_init : yX1_init.cls ≠ "java/lang/invoke/MethodHandle" ∧ yX1_init.cls ≠ "java/lang/invoke/VarHandle" ∧ (parseMethodDescriptor yX1_init.desc).map (fun d => d.parameters.length) = some 0 := by decide +kernel
theorem co_X1_run : Cond.code yX1_run cX1_run 7 none ∈ ALL := (ALL_at 506 (by decide +kernel) rfl)
theorem im_X1_run : Cond.instanceMethod yX1_run ∈ ALL := (ALL_at 505 (by decide +kernel) rfl)
theorem se_X1_run : Cond.selects RX1 yX1_run yX1_run ∈ ALL := (ALL_at 29 (by decide +kernel) rfl)
theorem sd_X1_run : yX1_run.cls ≠ "java/lang/invoke/MethodHandle" ∧ yX1_run.cls ≠ "java/lang/invoke/VarHandle" ∧ (parseMethodDescriptor yX1_run.desc).map (fun d => d.parameters.length) = some 4 := by decide +kernel
theorem co_X1_goThrough : Cond.code yX1_goThrough cX1_goThrough 5 (some .boolean) ∈ ALL := (ALL_at 511 (by decide +kernel) rfl)
theorem im_X1_goThrough : Cond.instanceMethod yX1_goThrough ∈ ALL := (ALL_at 510 (by decide +kernel) rfl)
theorem se_X1_goThrough : Cond.selects RX1 yX1_goThrough yX1_goThrough ∈ ALL := (ALL_at 30 (by decide +kernel) rfl)
theorem sd_X1_goThrough : yX1_goThrough.cls ≠ "java/lang/invoke/MethodHandle" ∧ yX1_goThrough.cls ≠ "java/lang/invoke/VarHandle" ∧ (parseMethodDescriptor yX1_goThrough.desc).map (fun d => d.parameters.length) = some 3 := by decide +kernel
theorem co_X2_init : Cond.code yX2_init cX2_init 1 none ∈ ALL := (ALL_at 72 (by decide +kernel) rfl)
theorem im_X2_init : Cond.instanceMethod yX2_init ∈ ALL := (ALL_at 71 (by decide +kernel) rfl)
theorem sd_X2_init : yX2_init.cls ≠ "java/lang/invoke/MethodHandle" ∧ yX2_init.cls ≠ "java/lang/invoke/VarHandle" ∧ (parseMethodDescriptor yX2_init.desc).map (fun d => d.parameters.length) = some 0 := by decide +kernel
theorem co_X2_has : Cond.code yX2_has cX2_has 2 (some .boolean) ∈ ALL := (ALL_at 310 (by decide +kernel) rfl)
theorem im_X2_has : Cond.instanceMethod yX2_has ∈ ALL := (ALL_at 309 (by decide +kernel) rfl)
theorem se_X2_has : Cond.selects RX2 yX2_has yX2_has ∈ ALL := (ALL_at 1 (by decide +kernel) rfl)
theorem sd_X2_has : yX2_has.cls ≠ "java/lang/invoke/MethodHandle" ∧ yX2_has.cls ≠ "java/lang/invoke/VarHandle" ∧ (parseMethodDescriptor yX2_has.desc).map (fun d => d.parameters.length) = some 1 := by decide +kernel
theorem co_X2_add : Cond.code yX2_add cX2_add 4 (some .int) ∈ ALL := (ALL_at 302 (by decide +kernel) rfl)
theorem im_X2_add : Cond.instanceMethod yX2_add ∈ ALL := (ALL_at 301 (by decide +kernel) rfl)
theorem se_X2_add : Cond.selects RX2 yX2_add yX2_add ∈ ALL := (ALL_at 0 (by decide +kernel) rfl)
theorem sd_X2_add : yX2_add.cls ≠ "java/lang/invoke/MethodHandle" ∧ yX2_add.cls ≠ "java/lang/invoke/VarHandle" ∧ (parseMethodDescriptor yX2_add.desc).map (fun d => d.parameters.length) = some 3 := by decide +kernel
theorem co_X2_setSide : Cond.code yX2_setSide cX2_setSide 4 (some .int) ∈ ALL := (ALL_at 314 (by decide +kernel) rfl)
theorem im_X2_setSide : Cond.instanceMethod yX2_setSide ∈ ALL := (ALL_at 313 (by decide +kernel) rfl)
theorem se_X2_setSide : Cond.selects RX2 yX2_setSide yX2_setSide ∈ ALL := (ALL_at 2 (by decide +kernel) rfl)
theorem sd_X2_setSide : yX2_setSide.cls ≠ "java/lang/invoke/MethodHandle" ∧ yX2_setSide.cls ≠ "java/lang/invoke/VarHandle" ∧ (parseMethodDescriptor yX2_setSide.desc).map (fun d => d.parameters.length) = some 2 := by decide +kernel
theorem co_X2_setTip : Cond.code yX2_setTip cX2_setTip 4 (some .int) ∈ ALL := (ALL_at 318 (by decide +kernel) rfl)
theorem im_X2_setTip : Cond.instanceMethod yX2_setTip ∈ ALL := (ALL_at 317 (by decide +kernel) rfl)
theorem se_X2_setTip : Cond.selects RX2 yX2_setTip yX2_setTip ∈ ALL := (ALL_at 3 (by decide +kernel) rfl)
theorem sd_X2_setTip : yX2_setTip.cls ≠ "java/lang/invoke/MethodHandle" ∧ yX2_setTip.cls ≠ "java/lang/invoke/VarHandle" ∧ (parseMethodDescriptor yX2_setTip.desc).map (fun d => d.parameters.length) = some 2 := by decide +kernel
theorem co_X2_setScour : Cond.code yX2_setScour cX2_setScour 3 (some .int) ∈ ALL := (ALL_at 326 (by decide +kernel) rfl)
theorem im_X2_setScour : Cond.instanceMethod yX2_setScour ∈ ALL := (ALL_at 325 (by decide +kernel) rfl)
theorem se_X2_setScour : Cond.selects RX2 yX2_setScour yX2_setScour ∈ ALL := (ALL_at 4 (by decide +kernel) rfl)
theorem sd_X2_setScour : yX2_setScour.cls ≠ "java/lang/invoke/MethodHandle" ∧ yX2_setScour.cls ≠ "java/lang/invoke/VarHandle" ∧ (parseMethodDescriptor yX2_setScour.desc).map (fun d => d.parameters.length) = some 1 := by decide +kernel
theorem co_X2_layerAt : Cond.code yX2_layerAt cX2_layerAt 4 (some .int) ∈ ALL := (ALL_at 390 (by decide +kernel) rfl)
theorem im_X2_layerAt : Cond.instanceMethod yX2_layerAt ∈ ALL := (ALL_at 389 (by decide +kernel) rfl)
theorem se_X2_layerAt : Cond.selects RX2 yX2_layerAt yX2_layerAt ∈ ALL := (ALL_at 13 (by decide +kernel) rfl)
theorem sd_X2_layerAt : yX2_layerAt.cls ≠ "java/lang/invoke/MethodHandle" ∧ yX2_layerAt.cls ≠ "java/lang/invoke/VarHandle" ∧ (parseMethodDescriptor yX2_layerAt.desc).map (fun d => d.parameters.length) = some 1 := by decide +kernel
theorem co_X2_sideAt : Cond.code yX2_sideAt cX2_sideAt 3 (some .int) ∈ ALL := (ALL_at 526 (by decide +kernel) rfl)
theorem im_X2_sideAt : Cond.instanceMethod yX2_sideAt ∈ ALL := (ALL_at 525 (by decide +kernel) rfl)
theorem se_X2_sideAt : Cond.selects RX2 yX2_sideAt yX2_sideAt ∈ ALL := (ALL_at 32 (by decide +kernel) rfl)
theorem sd_X2_sideAt : yX2_sideAt.cls ≠ "java/lang/invoke/MethodHandle" ∧ yX2_sideAt.cls ≠ "java/lang/invoke/VarHandle" ∧ (parseMethodDescriptor yX2_sideAt.desc).map (fun d => d.parameters.length) = some 1 := by decide +kernel
theorem co_X2_tipBelow : Cond.code yX2_tipBelow cX2_tipBelow 3 (some .int) ∈ ALL := (ALL_at 386 (by decide +kernel) rfl)
theorem im_X2_tipBelow : Cond.instanceMethod yX2_tipBelow ∈ ALL := (ALL_at 385 (by decide +kernel) rfl)
theorem se_X2_tipBelow : Cond.selects RX2 yX2_tipBelow yX2_tipBelow ∈ ALL := (ALL_at 12 (by decide +kernel) rfl)
theorem sd_X2_tipBelow : yX2_tipBelow.cls ≠ "java/lang/invoke/MethodHandle" ∧ yX2_tipBelow.cls ≠ "java/lang/invoke/VarHandle" ∧ (parseMethodDescriptor yX2_tipBelow.desc).map (fun d => d.parameters.length) = some 1 := by decide +kernel
theorem co_X2_pullOf : Cond.code yX2_pullOf cX2_pullOf 6 (some .int) ∈ ALL := (ALL_at 371 (by decide +kernel) rfl)
theorem im_X2_pullOf : Cond.instanceMethod yX2_pullOf ∈ ALL := (ALL_at 370 (by decide +kernel) rfl)
theorem se_X2_pullOf : Cond.selects RX2 yX2_pullOf yX2_pullOf ∈ ALL := (ALL_at 10 (by decide +kernel) rfl)
theorem sd_X2_pullOf : yX2_pullOf.cls ≠ "java/lang/invoke/MethodHandle" ∧ yX2_pullOf.cls ≠ "java/lang/invoke/VarHandle" ∧ (parseMethodDescriptor yX2_pullOf.desc).map (fun d => d.parameters.length) = some 1 := by decide +kernel
theorem co_X2_bearingOf : Cond.code yX2_bearingOf cX2_bearingOf 2 (some .int) ∈ ALL := (ALL_at 381 (by decide +kernel) rfl)
theorem im_X2_bearingOf : Cond.instanceMethod yX2_bearingOf ∈ ALL := (ALL_at 380 (by decide +kernel) rfl)
theorem se_X2_bearingOf : Cond.selects RX2 yX2_bearingOf yX2_bearingOf ∈ ALL := (ALL_at 11 (by decide +kernel) rfl)
theorem sd_X2_bearingOf : yX2_bearingOf.cls ≠ "java/lang/invoke/MethodHandle" ∧ yX2_bearingOf.cls ≠ "java/lang/invoke/VarHandle" ∧ (parseMethodDescriptor yX2_bearingOf.desc).map (fun d => d.parameters.length) = some 1 := by decide +kernel
theorem co_X3_init : Cond.code yX3_init cX3_init 1 none ∈ ALL := (ALL_at 203 (by decide +kernel) rfl)
theorem im_X3_init : Cond.instanceMethod yX3_init ∈ ALL := (ALL_at 202 (by decide +kernel) rfl)
theorem sd_X3_init : yX3_init.cls ≠ "java/lang/invoke/MethodHandle" ∧ yX3_init.cls ≠ "java/lang/invoke/VarHandle" ∧ (parseMethodDescriptor yX3_init.desc).map (fun d => d.parameters.length) = some 0 := by decide +kernel
theorem co_X3_measure : Cond.code yX3_measure cX3_measure 4 none ∈ ALL := (ALL_at 451 (by decide +kernel) rfl)
theorem im_X3_measure : Cond.instanceMethod yX3_measure ∈ ALL := (ALL_at 450 (by decide +kernel) rfl)
theorem se_X3_measure : Cond.selects RX3 yX3_measure yX3_measure ∈ ALL := (ALL_at 22 (by decide +kernel) rfl)
theorem sd_X3_measure : yX3_measure.cls ≠ "java/lang/invoke/MethodHandle" ∧ yX3_measure.cls ≠ "java/lang/invoke/VarHandle" ∧ (parseMethodDescriptor yX3_measure.desc).map (fun d => d.parameters.length) = some 2 := by decide +kernel
theorem co_X3_measureSpacing : Cond.code yX3_measureSpacing cX3_measureSpacing 7 none ∈ ALL := (ALL_at 490 (by decide +kernel) rfl)
theorem im_X3_measureSpacing : Cond.instanceMethod yX3_measureSpacing ∈ ALL := (ALL_at 489 (by decide +kernel) rfl)
theorem se_X3_measureSpacing : Cond.selects RX3 yX3_measureSpacing yX3_measureSpacing ∈ ALL := (ALL_at 26 (by decide +kernel) rfl)
theorem sd_X3_measureSpacing : yX3_measureSpacing.cls ≠ "java/lang/invoke/MethodHandle" ∧ yX3_measureSpacing.cls ≠ "java/lang/invoke/VarHandle" ∧ (parseMethodDescriptor yX3_measureSpacing.desc).map (fun d => d.parameters.length) = some 2 := by decide +kernel
theorem co_X3_against : Cond.code yX3_against cX3_against 4 (some .long) ∈ ALL := (ALL_at 462 (by decide +kernel) rfl)
theorem im_X3_against : Cond.instanceMethod yX3_against ∈ ALL := (ALL_at 461 (by decide +kernel) rfl)
theorem se_X3_against : Cond.selects RX3 yX3_against yX3_against ∈ ALL := (ALL_at 24 (by decide +kernel) rfl)
theorem sd_X3_against : yX3_against.cls ≠ "java/lang/invoke/MethodHandle" ∧ yX3_against.cls ≠ "java/lang/invoke/VarHandle" ∧ (parseMethodDescriptor yX3_against.desc).map (fun d => d.parameters.length) = some 2 := by decide +kernel
theorem co_X3_spaced : Cond.code yX3_spaced cX3_spaced 3 (some .boolean) ∈ ALL := (ALL_at 498 (by decide +kernel) rfl)
theorem im_X3_spaced : Cond.instanceMethod yX3_spaced ∈ ALL := (ALL_at 497 (by decide +kernel) rfl)
theorem se_X3_spaced : Cond.selects RX3 yX3_spaced yX3_spaced ∈ ALL := (ALL_at 28 (by decide +kernel) rfl)
theorem sd_X3_spaced : yX3_spaced.cls ≠ "java/lang/invoke/MethodHandle" ∧ yX3_spaced.cls ≠ "java/lang/invoke/VarHandle" ∧ (parseMethodDescriptor yX3_spaced.desc).map (fun d => d.parameters.length) = some 1 := by decide +kernel
theorem co_X4_init : Cond.code yX4_init cX4_init 1 none ∈ ALL := (ALL_at 135 (by decide +kernel) rfl)
theorem im_X4_init : Cond.instanceMethod yX4_init ∈ ALL := (ALL_at 134 (by decide +kernel) rfl)
theorem sd_X4_init : yX4_init.cls ≠ "java/lang/invoke/MethodHandle" ∧ yX4_init.cls ≠ "java/lang/invoke/VarHandle" ∧ (parseMethodDescriptor yX4_init.desc).map (fun d => d.parameters.length) = some 0 := by decide +kernel
theorem co_X4_add : Cond.code yX4_add cX4_add 5 (some .int) ∈ ALL := (ALL_at 401 (by decide +kernel) rfl)
theorem im_X4_add : Cond.instanceMethod yX4_add ∈ ALL := (ALL_at 400 (by decide +kernel) rfl)
theorem se_X4_add : Cond.selects RX4 yX4_add yX4_add ∈ ALL := (ALL_at 14 (by decide +kernel) rfl)
theorem sd_X4_add : yX4_add.cls ≠ "java/lang/invoke/MethodHandle" ∧ yX4_add.cls ≠ "java/lang/invoke/VarHandle" ∧ (parseMethodDescriptor yX4_add.desc).map (fun d => d.parameters.length) = some 4 := by decide +kernel
theorem co_X4_clear : Cond.code yX4_clear cX4_clear 3 (some .int) ∈ ALL := (ALL_at 409 (by decide +kernel) rfl)
theorem im_X4_clear : Cond.instanceMethod yX4_clear ∈ ALL := (ALL_at 408 (by decide +kernel) rfl)
theorem se_X4_clear : Cond.selects RX4 yX4_clear yX4_clear ∈ ALL := (ALL_at 15 (by decide +kernel) rfl)
theorem sd_X4_clear : yX4_clear.cls ≠ "java/lang/invoke/MethodHandle" ∧ yX4_clear.cls ≠ "java/lang/invoke/VarHandle" ∧ (parseMethodDescriptor yX4_clear.desc).map (fun d => d.parameters.length) = some 1 := by decide +kernel
theorem co_X4_all : Cond.code yX4_all cX4_all 3 (some .int) ∈ ALL := (ALL_at 541 (by decide +kernel) rfl)
theorem im_X4_all : Cond.instanceMethod yX4_all ∈ ALL := (ALL_at 540 (by decide +kernel) rfl)
theorem se_X4_all : Cond.selects RX4 yX4_all yX4_all ∈ ALL := (ALL_at 33 (by decide +kernel) rfl)
theorem sd_X4_all : yX4_all.cls ≠ "java/lang/invoke/MethodHandle" ∧ yX4_all.cls ≠ "java/lang/invoke/VarHandle" ∧ (parseMethodDescriptor yX4_all.desc).map (fun d => d.parameters.length) = some 0 := by decide +kernel
theorem co_X5_init : Cond.code yX5_init cX5_init 1 none ∈ ALL := (ALL_at 96 (by decide +kernel) rfl)
theorem im_X5_init : Cond.instanceMethod yX5_init ∈ ALL := (ALL_at 95 (by decide +kernel) rfl)
theorem sd_X5_init : yX5_init.cls ≠ "java/lang/invoke/MethodHandle" ∧ yX5_init.cls ≠ "java/lang/invoke/VarHandle" ∧ (parseMethodDescriptor yX5_init.desc).map (fun d => d.parameters.length) = some 0 := by decide +kernel
theorem co_X5_has : Cond.code yX5_has cX5_has 2 (some .boolean) ∈ ALL := (ALL_at 353 (by decide +kernel) rfl)
theorem im_X5_has : Cond.instanceMethod yX5_has ∈ ALL := (ALL_at 352 (by decide +kernel) rfl)
theorem se_X5_has : Cond.selects RX5 yX5_has yX5_has ∈ ALL := (ALL_at 8 (by decide +kernel) rfl)
theorem sd_X5_has : yX5_has.cls ≠ "java/lang/invoke/MethodHandle" ∧ yX5_has.cls ≠ "java/lang/invoke/VarHandle" ∧ (parseMethodDescriptor yX5_has.desc).map (fun d => d.parameters.length) = some 1 := by decide +kernel
theorem co_X5_isWhole : Cond.code yX5_isWhole cX5_isWhole 2 (some .boolean) ∈ ALL := (ALL_at 362 (by decide +kernel) rfl)
theorem im_X5_isWhole : Cond.instanceMethod yX5_isWhole ∈ ALL := (ALL_at 361 (by decide +kernel) rfl)
theorem se_X5_isWhole : Cond.selects RX5 yX5_isWhole yX5_isWhole ∈ ALL := (ALL_at 9 (by decide +kernel) rfl)
theorem sd_X5_isWhole : yX5_isWhole.cls ≠ "java/lang/invoke/MethodHandle" ∧ yX5_isWhole.cls ≠ "java/lang/invoke/VarHandle" ∧ (parseMethodDescriptor yX5_isWhole.desc).map (fun d => d.parameters.length) = some 1 := by decide +kernel
theorem co_X5_add : Cond.code yX5_add cX5_add 6 (some .int) ∈ ALL := (ALL_at 337 (by decide +kernel) rfl)
theorem im_X5_add : Cond.instanceMethod yX5_add ∈ ALL := (ALL_at 336 (by decide +kernel) rfl)
theorem se_X5_add : Cond.selects RX5 yX5_add yX5_add ∈ ALL := (ALL_at 5 (by decide +kernel) rfl)
theorem sd_X5_add : yX5_add.cls ≠ "java/lang/invoke/MethodHandle" ∧ yX5_add.cls ≠ "java/lang/invoke/VarHandle" ∧ (parseMethodDescriptor yX5_add.desc).map (fun d => d.parameters.length) = some 4 := by decide +kernel
theorem co_X5_place : Cond.code yX5_place cX5_place 4 none ∈ ALL := (ALL_at 341 (by decide +kernel) rfl)
theorem im_X5_place : Cond.instanceMethod yX5_place ∈ ALL := (ALL_at 340 (by decide +kernel) rfl)
theorem se_X5_place : Cond.selects RX5 yX5_place yX5_place ∈ ALL := (ALL_at 6 (by decide +kernel) rfl)
theorem sd_X5_place : yX5_place.cls ≠ "java/lang/invoke/MethodHandle" ∧ yX5_place.cls ≠ "java/lang/invoke/VarHandle" ∧ (parseMethodDescriptor yX5_place.desc).map (fun d => d.parameters.length) = some 3 := by decide +kernel
theorem co_X5_setWhole : Cond.code yX5_setWhole cX5_setWhole 3 none ∈ ALL := (ALL_at 345 (by decide +kernel) rfl)
theorem im_X5_setWhole : Cond.instanceMethod yX5_setWhole ∈ ALL := (ALL_at 344 (by decide +kernel) rfl)
theorem se_X5_setWhole : Cond.selects RX5 yX5_setWhole yX5_setWhole ∈ ALL := (ALL_at 7 (by decide +kernel) rfl)
theorem sd_X5_setWhole : yX5_setWhole.cls ≠ "java/lang/invoke/MethodHandle" ∧ yX5_setWhole.cls ≠ "java/lang/invoke/VarHandle" ∧ (parseMethodDescriptor yX5_setWhole.desc).map (fun d => d.parameters.length) = some 2 := by decide +kernel
theorem co_X6_init : Cond.code yX6_init cX6_init 1 none ∈ ALL := (ALL_at 246 (by decide +kernel) rfl)
theorem im_X6_init : Cond.instanceMethod yX6_init ∈ ALL := (ALL_at 245 (by decide +kernel) rfl)
theorem sd_X6_init : yX6_init.cls ≠ "java/lang/invoke/MethodHandle" ∧ yX6_init.cls ≠ "java/lang/invoke/VarHandle" ∧ (parseMethodDescriptor yX6_init.desc).map (fun d => d.parameters.length) = some 0 := by decide +kernel
theorem co_X6_clear : Cond.code yX6_clear cX6_clear 1 none ∈ ALL := (ALL_at 429 (by decide +kernel) rfl)
theorem im_X6_clear : Cond.instanceMethod yX6_clear ∈ ALL := (ALL_at 428 (by decide +kernel) rfl)
theorem se_X6_clear : Cond.selects RX6 yX6_clear yX6_clear ∈ ALL := (ALL_at 19 (by decide +kernel) rfl)
theorem sd_X6_clear : yX6_clear.cls ≠ "java/lang/invoke/MethodHandle" ∧ yX6_clear.cls ≠ "java/lang/invoke/VarHandle" ∧ (parseMethodDescriptor yX6_clear.desc).map (fun d => d.parameters.length) = some 0 := by decide +kernel
theorem co_X6_add : Cond.code yX6_add cX6_add 7 none ∈ ALL := (ALL_at 433 (by decide +kernel) rfl)
theorem im_X6_add : Cond.instanceMethod yX6_add ∈ ALL := (ALL_at 432 (by decide +kernel) rfl)
theorem se_X6_add : Cond.selects RX6 yX6_add yX6_add ∈ ALL := (ALL_at 20 (by decide +kernel) rfl)
theorem sd_X6_add : yX6_add.cls ≠ "java/lang/invoke/MethodHandle" ∧ yX6_add.cls ≠ "java/lang/invoke/VarHandle" ∧ (parseMethodDescriptor yX6_add.desc).map (fun d => d.parameters.length) = some 2 := by decide +kernel
theorem co_X7_init : Cond.code yX7_init cX7_init 1 none ∈ ALL := (ALL_at 64 (by decide +kernel) rfl)
theorem im_X7_init : Cond.instanceMethod yX7_init ∈ ALL := (ALL_at 63 (by decide +kernel) rfl)
theorem sd_X7_init : yX7_init.cls ≠ "java/lang/invoke/MethodHandle" ∧ yX7_init.cls ≠ "java/lang/invoke/VarHandle" ∧ (parseMethodDescriptor yX7_init.desc).map (fun d => d.parameters.length) = some 0 := by decide +kernel
theorem co_X7_layer : Cond.code yX7_layer cX7_layer 4 (some .int) ∈ ALL := (ALL_at 289 (by decide +kernel) rfl)
theorem im_X7_layer : Cond.instanceMethod yX7_layer ∈ ALL := (ALL_at 287 (by decide +kernel) rfl)
theorem se_X7_layer : Cond.selects RX7 yX7_layer yX7_layer ∈ ALL := (ALL_at 288 (by decide +kernel) rfl)
theorem sd_X7_layer : yX7_layer.cls ≠ "java/lang/invoke/MethodHandle" ∧ yX7_layer.cls ≠ "java/lang/invoke/VarHandle" ∧ (parseMethodDescriptor yX7_layer.desc).map (fun d => d.parameters.length) = some 3 := by decide +kernel
theorem co_X7_change : Cond.code yX7_change cX7_change 4 (some .int) ∈ ALL := (ALL_at 306 (by decide +kernel) rfl)
theorem im_X7_change : Cond.instanceMethod yX7_change ∈ ALL := (ALL_at 304 (by decide +kernel) rfl)
theorem se_X7_change : Cond.selects RX7 yX7_change yX7_change ∈ ALL := (ALL_at 305 (by decide +kernel) rfl)
theorem sd_X7_change : yX7_change.cls ≠ "java/lang/invoke/MethodHandle" ∧ yX7_change.cls ≠ "java/lang/invoke/VarHandle" ∧ (parseMethodDescriptor yX7_change.desc).map (fun d => d.parameters.length) = some 3 := by decide +kernel
theorem co_X7_rule : Cond.code yX7_rule cX7_rule 4 (some .int) ∈ ALL := (ALL_at 322 (by decide +kernel) rfl)
theorem im_X7_rule : Cond.instanceMethod yX7_rule ∈ ALL := (ALL_at 320 (by decide +kernel) rfl)
theorem se_X7_rule : Cond.selects RX7 yX7_rule yX7_rule ∈ ALL := (ALL_at 321 (by decide +kernel) rfl)
theorem sd_X7_rule : yX7_rule.cls ≠ "java/lang/invoke/MethodHandle" ∧ yX7_rule.cls ≠ "java/lang/invoke/VarHandle" ∧ (parseMethodDescriptor yX7_rule.desc).map (fun d => d.parameters.length) = some 2 := by decide +kernel
theorem co_X7_pile : Cond.code yX7_pile cX7_pile 5 (some .int) ∈ ALL := (ALL_at 330 (by decide +kernel) rfl)
theorem im_X7_pile : Cond.instanceMethod yX7_pile ∈ ALL := (ALL_at 328 (by decide +kernel) rfl)
theorem se_X7_pile : Cond.selects RX7 yX7_pile yX7_pile ∈ ALL := (ALL_at 329 (by decide +kernel) rfl)
theorem sd_X7_pile : yX7_pile.cls ≠ "java/lang/invoke/MethodHandle" ∧ yX7_pile.cls ≠ "java/lang/invoke/VarHandle" ∧ (parseMethodDescriptor yX7_pile.desc).map (fun d => d.parameters.length) = some 4 := by decide +kernel
theorem co_X7_shift : Cond.code yX7_shift cX7_shift 4 (some .int) ∈ ALL := (ALL_at 349 (by decide +kernel) rfl)
theorem im_X7_shift : Cond.instanceMethod yX7_shift ∈ ALL := (ALL_at 347 (by decide +kernel) rfl)
theorem se_X7_shift : Cond.selects RX7 yX7_shift yX7_shift ∈ ALL := (ALL_at 348 (by decide +kernel) rfl)
theorem sd_X7_shift : yX7_shift.cls ≠ "java/lang/invoke/MethodHandle" ∧ yX7_shift.cls ≠ "java/lang/invoke/VarHandle" ∧ (parseMethodDescriptor yX7_shift.desc).map (fun d => d.parameters.length) = some 3 := by decide +kernel
theorem co_X7_whole : Cond.code yX7_whole cX7_whole 4 (some .int) ∈ ALL := (ALL_at 358 (by decide +kernel) rfl)
theorem im_X7_whole : Cond.instanceMethod yX7_whole ∈ ALL := (ALL_at 356 (by decide +kernel) rfl)
theorem se_X7_whole : Cond.selects RX7 yX7_whole yX7_whole ∈ ALL := (ALL_at 357 (by decide +kernel) rfl)
theorem sd_X7_whole : yX7_whole.cls ≠ "java/lang/invoke/MethodHandle" ∧ yX7_whole.cls ≠ "java/lang/invoke/VarHandle" ∧ (parseMethodDescriptor yX7_whole.desc).map (fun d => d.parameters.length) = some 2 := by decide +kernel
theorem co_X7_about : Cond.code yX7_about cX7_about 3 (some .int) ∈ ALL := (ALL_at 367 (by decide +kernel) rfl)
theorem im_X7_about : Cond.instanceMethod yX7_about ∈ ALL := (ALL_at 365 (by decide +kernel) rfl)
theorem se_X7_about : Cond.selects RX7 yX7_about yX7_about ∈ ALL := (ALL_at 366 (by decide +kernel) rfl)
theorem sd_X7_about : yX7_about.cls ≠ "java/lang/invoke/MethodHandle" ∧ yX7_about.cls ≠ "java/lang/invoke/VarHandle" ∧ (parseMethodDescriptor yX7_about.desc).map (fun d => d.parameters.length) = some 2 := by decide +kernel
theorem co_X7_load : Cond.code yX7_load cX7_load 5 (some .int) ∈ ALL := (ALL_at 394 (by decide +kernel) rfl)
theorem im_X7_load : Cond.instanceMethod yX7_load ∈ ALL := (ALL_at 392 (by decide +kernel) rfl)
theorem se_X7_load : Cond.selects RX7 yX7_load yX7_load ∈ ALL := (ALL_at 393 (by decide +kernel) rfl)
theorem sd_X7_load : yX7_load.cls ≠ "java/lang/invoke/MethodHandle" ∧ yX7_load.cls ≠ "java/lang/invoke/VarHandle" ∧ (parseMethodDescriptor yX7_load.desc).map (fun d => d.parameters.length) = some 4 := by decide +kernel
theorem co_X7_noLoads : Cond.code yX7_noLoads cX7_noLoads 2 (some .int) ∈ ALL := (ALL_at 405 (by decide +kernel) rfl)
theorem im_X7_noLoads : Cond.instanceMethod yX7_noLoads ∈ ALL := (ALL_at 403 (by decide +kernel) rfl)
theorem se_X7_noLoads : Cond.selects RX7 yX7_noLoads yX7_noLoads ∈ ALL := (ALL_at 404 (by decide +kernel) rfl)
theorem sd_X7_noLoads : yX7_noLoads.cls ≠ "java/lang/invoke/MethodHandle" ∧ yX7_noLoads.cls ≠ "java/lang/invoke/VarHandle" ∧ (parseMethodDescriptor yX7_noLoads.desc).map (fun d => d.parameters.length) = some 1 := by decide +kernel
theorem co_X7_shares : Cond.code yX7_shares cX7_shares 4 (some .int) ∈ ALL := (ALL_at 413 (by decide +kernel) rfl)
theorem im_X7_shares : Cond.instanceMethod yX7_shares ∈ ALL := (ALL_at 411 (by decide +kernel) rfl)
theorem se_X7_shares : Cond.selects RX7 yX7_shares yX7_shares ∈ ALL := (ALL_at 412 (by decide +kernel) rfl)
theorem sd_X7_shares : yX7_shares.cls ≠ "java/lang/invoke/MethodHandle" ∧ yX7_shares.cls ≠ "java/lang/invoke/VarHandle" ∧ (parseMethodDescriptor yX7_shares.desc).map (fun d => d.parameters.length) = some 1 := by decide +kernel
theorem co_X7_over : Cond.code yX7_over cX7_over 3 (some .int) ∈ ALL := (ALL_at 447 (by decide +kernel) rfl)
theorem im_X7_over : Cond.instanceMethod yX7_over ∈ ALL := (ALL_at 445 (by decide +kernel) rfl)
theorem se_X7_over : Cond.selects RX7 yX7_over yX7_over ∈ ALL := (ALL_at 446 (by decide +kernel) rfl)
theorem sd_X7_over : yX7_over.cls ≠ "java/lang/invoke/MethodHandle" ∧ yX7_over.cls ≠ "java/lang/invoke/VarHandle" ∧ (parseMethodDescriptor yX7_over.desc).map (fun d => d.parameters.length) = some 1 := by decide +kernel
theorem co_X7_end : Cond.code yX7_end cX7_end 6 (some .int) ∈ ALL := (ALL_at 466 (by decide +kernel) rfl)
theorem im_X7_end : Cond.instanceMethod yX7_end ∈ ALL := (ALL_at 464 (by decide +kernel) rfl)
theorem se_X7_end : Cond.selects RX7 yX7_end yX7_end ∈ ALL := (ALL_at 465 (by decide +kernel) rfl)
theorem sd_X7_end : yX7_end.cls ≠ "java/lang/invoke/MethodHandle" ∧ yX7_end.cls ≠ "java/lang/invoke/VarHandle" ∧ (parseMethodDescriptor yX7_end.desc).map (fun d => d.parameters.length) = some 1 := by decide +kernel
theorem co_X7_least : Cond.code yX7_least cX7_least 8 (some .int) ∈ ALL := (ALL_at 480 (by decide +kernel) rfl)
theorem im_X7_least : Cond.instanceMethod yX7_least ∈ ALL := (ALL_at 478 (by decide +kernel) rfl)
theorem se_X7_least : Cond.selects RX7 yX7_least yX7_least ∈ ALL := (ALL_at 479 (by decide +kernel) rfl)
theorem sd_X7_least : yX7_least.cls ≠ "java/lang/invoke/MethodHandle" ∧ yX7_least.cls ≠ "java/lang/invoke/VarHandle" ∧ (parseMethodDescriptor yX7_least.desc).map (fun d => d.parameters.length) = some 0 := by decide +kernel
theorem co_X7_drive : Cond.code yX7_drive cX7_drive 4 (some .int) ∈ ALL := (ALL_at 502 (by decide +kernel) rfl)
theorem im_X7_drive : Cond.instanceMethod yX7_drive ∈ ALL := (ALL_at 500 (by decide +kernel) rfl)
theorem se_X7_drive : Cond.selects RX7 yX7_drive yX7_drive ∈ ALL := (ALL_at 501 (by decide +kernel) rfl)
theorem sd_X7_drive : yX7_drive.cls ≠ "java/lang/invoke/MethodHandle" ∧ yX7_drive.cls ≠ "java/lang/invoke/VarHandle" ∧ (parseMethodDescriptor yX7_drive.desc).map (fun d => d.parameters.length) = some 3 := by decide +kernel
theorem co_X7_drag : Cond.code yX7_drag cX7_drag 7 (some .int) ∈ ALL := (ALL_at 516 (by decide +kernel) rfl)
theorem im_X7_drag : Cond.instanceMethod yX7_drag ∈ ALL := (ALL_at 514 (by decide +kernel) rfl)
theorem se_X7_drag : Cond.selects RX7 yX7_drag yX7_drag ∈ ALL := (ALL_at 515 (by decide +kernel) rfl)
theorem sd_X7_drag : yX7_drag.cls ≠ "java/lang/invoke/MethodHandle" ∧ yX7_drag.cls ≠ "java/lang/invoke/VarHandle" ∧ (parseMethodDescriptor yX7_drag.desc).map (fun d => d.parameters.length) = some 2 := by decide +kernel
theorem co_X7_number : Cond.code yX7_number cX7_number 3 (some .long) ∈ ALL := (ALL_at 531 (by decide +kernel) rfl)
theorem im_X7_number : Cond.instanceMethod yX7_number ∈ ALL := (ALL_at 529 (by decide +kernel) rfl)
theorem se_X7_number : Cond.selects RX7 yX7_number yX7_number ∈ ALL := (ALL_at 530 (by decide +kernel) rfl)
theorem sd_X7_number : yX7_number.cls ≠ "java/lang/invoke/MethodHandle" ∧ yX7_number.cls ≠ "java/lang/invoke/VarHandle" ∧ (parseMethodDescriptor yX7_number.desc).map (fun d => d.parameters.length) = some 2 := by decide +kernel
theorem co_X7_count : Cond.code yX7_count cX7_count 2 (some .int) ∈ ALL := (ALL_at 537 (by decide +kernel) rfl)
theorem im_X7_count : Cond.instanceMethod yX7_count ∈ ALL := (ALL_at 535 (by decide +kernel) rfl)
theorem se_X7_count : Cond.selects RX7 yX7_count yX7_count ∈ ALL := (ALL_at 536 (by decide +kernel) rfl)
theorem sd_X7_count : yX7_count.cls ≠ "java/lang/invoke/MethodHandle" ∧ yX7_count.cls ≠ "java/lang/invoke/VarHandle" ∧ (parseMethodDescriptor yX7_count.desc).map (fun d => d.parameters.length) = some 1 := by decide +kernel
theorem co_X7_within : Cond.code yX7_within cX7_within 3 (some .boolean) ∈ ALL := (ALL_at 292 (by decide +kernel) rfl)
theorem sm_X7_within : Cond.static yX7_within ∈ ALL := (ALL_at 291 (by decide +kernel) rfl)
theorem sd_X7_within : yX7_within.cls ≠ "java/lang/invoke/MethodHandle" ∧ yX7_within.cls ≠ "java/lang/invoke/VarHandle" ∧ (parseMethodDescriptor yX7_within.desc).map (fun d => d.parameters.length) = some 3 := by decide +kernel
theorem co_X7_isSide : Cond.code yX7_isSide cX7_isSide 1 (some .boolean) ∈ ALL := (ALL_at 295 (by decide +kernel) rfl)
theorem sm_X7_isSide : Cond.static yX7_isSide ∈ ALL := (ALL_at 294 (by decide +kernel) rfl)
theorem sd_X7_isSide : yX7_isSide.cls ≠ "java/lang/invoke/MethodHandle" ∧ yX7_isSide.cls ≠ "java/lang/invoke/VarHandle" ∧ (parseMethodDescriptor yX7_isSide.desc).map (fun d => d.parameters.length) = some 1 := by decide +kernel
theorem co_X7_isTip : Cond.code yX7_isTip cX7_isTip 1 (some .boolean) ∈ ALL := (ALL_at 298 (by decide +kernel) rfl)
theorem sm_X7_isTip : Cond.static yX7_isTip ∈ ALL := (ALL_at 297 (by decide +kernel) rfl)
theorem sd_X7_isTip : yX7_isTip.cls ≠ "java/lang/invoke/MethodHandle" ∧ yX7_isTip.cls ≠ "java/lang/invoke/VarHandle" ∧ (parseMethodDescriptor yX7_isTip.desc).map (fun d => d.parameters.length) = some 1 := by decide +kernel
theorem co_X7_isPlace : Cond.code yX7_isPlace cX7_isPlace 2 (some .boolean) ∈ ALL := (ALL_at 333 (by decide +kernel) rfl)
theorem sm_X7_isPlace : Cond.static yX7_isPlace ∈ ALL := (ALL_at 332 (by decide +kernel) rfl)
theorem sd_X7_isPlace : yX7_isPlace.cls ≠ "java/lang/invoke/MethodHandle" ∧ yX7_isPlace.cls ≠ "java/lang/invoke/VarHandle" ∧ (parseMethodDescriptor yX7_isPlace.desc).map (fun d => d.parameters.length) = some 2 := by decide +kernel
theorem co_X7_isCase : Cond.code yX7_isCase cX7_isCase 1 (some .boolean) ∈ ALL := (ALL_at 397 (by decide +kernel) rfl)
theorem sm_X7_isCase : Cond.static yX7_isCase ∈ ALL := (ALL_at 396 (by decide +kernel) rfl)
theorem sd_X7_isCase : yX7_isCase.cls ≠ "java/lang/invoke/MethodHandle" ∧ yX7_isCase.cls ≠ "java/lang/invoke/VarHandle" ∧ (parseMethodDescriptor yX7_isCase.desc).map (fun d => d.parameters.length) = some 1 := by decide +kernel
theorem co_X7_settle : Cond.code yX7_settle cX7_settle 2 (some .int) ∈ ALL := (ALL_at 417 (by decide +kernel) rfl)
theorem im_X7_settle : Cond.instanceMethod yX7_settle ∈ ALL := (ALL_at 416 (by decide +kernel) rfl)
theorem se_X7_settle : Cond.selects RX7 yX7_settle yX7_settle ∈ ALL := (ALL_at 16 (by decide +kernel) rfl)
theorem sd_X7_settle : yX7_settle.cls ≠ "java/lang/invoke/MethodHandle" ∧ yX7_settle.cls ≠ "java/lang/invoke/VarHandle" ∧ (parseMethodDescriptor yX7_settle.desc).map (fun d => d.parameters.length) = some 1 := by decide +kernel
theorem co_X7_overloaded : Cond.code yX7_overloaded cX7_overloaded 6 (some .int) ∈ ALL := (ALL_at 457 (by decide +kernel) rfl)
theorem im_X7_overloaded : Cond.instanceMethod yX7_overloaded ∈ ALL := (ALL_at 456 (by decide +kernel) rfl)
theorem se_X7_overloaded : Cond.selects RX7 yX7_overloaded yX7_overloaded ∈ ALL := (ALL_at 23 (by decide +kernel) rfl)
theorem sd_X7_overloaded : yX7_overloaded.cls ≠ "java/lang/invoke/MethodHandle" ∧ yX7_overloaded.cls ≠ "java/lang/invoke/VarHandle" ∧ (parseMethodDescriptor yX7_overloaded.desc).map (fun d => d.parameters.length) = some 1 := by decide +kernel
theorem co_X7_endsBefore : Cond.code yX7_endsBefore cX7_endsBefore 7 (some .boolean) ∈ ALL := (ALL_at 470 (by decide +kernel) rfl)
theorem im_X7_endsBefore : Cond.instanceMethod yX7_endsBefore ∈ ALL := (ALL_at 469 (by decide +kernel) rfl)
theorem se_X7_endsBefore : Cond.selects RX7 yX7_endsBefore yX7_endsBefore ∈ ALL := (ALL_at 25 (by decide +kernel) rfl)
theorem sd_X7_endsBefore : yX7_endsBefore.cls ≠ "java/lang/invoke/MethodHandle" ∧ yX7_endsBefore.cls ≠ "java/lang/invoke/VarHandle" ∧ (parseMethodDescriptor yX7_endsBefore.desc).map (fun d => d.parameters.length) = some 2 := by decide +kernel
theorem co_X7_holds : Cond.code yX7_holds cX7_holds 3 (some .boolean) ∈ ALL := (ALL_at 494 (by decide +kernel) rfl)
theorem im_X7_holds : Cond.instanceMethod yX7_holds ∈ ALL := (ALL_at 493 (by decide +kernel) rfl)
theorem se_X7_holds : Cond.selects RX7 yX7_holds yX7_holds ∈ ALL := (ALL_at 27 (by decide +kernel) rfl)
theorem sd_X7_holds : yX7_holds.cls ≠ "java/lang/invoke/MethodHandle" ∧ yX7_holds.cls ≠ "java/lang/invoke/VarHandle" ∧ (parseMethodDescriptor yX7_holds.desc).map (fun d => d.parameters.length) = some 1 := by decide +kernel
theorem co_X7_tellDepth : Cond.code yX7_tellDepth cX7_tellDepth 6 none ∈ ALL := (ALL_at 522 (by decide +kernel) rfl)
theorem im_X7_tellDepth : Cond.instanceMethod yX7_tellDepth ∈ ALL := (ALL_at 521 (by decide +kernel) rfl)
theorem se_X7_tellDepth : Cond.selects RX7 yX7_tellDepth yX7_tellDepth ∈ ALL := (ALL_at 31 (by decide +kernel) rfl)
theorem sd_X7_tellDepth : yX7_tellDepth.cls ≠ "java/lang/invoke/MethodHandle" ∧ yX7_tellDepth.cls ≠ "java/lang/invoke/VarHandle" ∧ (parseMethodDescriptor yX7_tellDepth.desc).map (fun d => d.parameters.length) = some 2 := by decide +kernel
theorem co_X7_commonDivisor : Cond.code yX7_commonDivisor cX7_commonDivisor 7 (some .long) ∈ ALL := (ALL_at 439 (by decide +kernel) rfl)
theorem sm_X7_commonDivisor : Cond.static yX7_commonDivisor ∈ ALL := (ALL_at 438 (by decide +kernel) rfl)
theorem sd_X7_commonDivisor : yX7_commonDivisor.cls ≠ "java/lang/invoke/MethodHandle" ∧ yX7_commonDivisor.cls ≠ "java/lang/invoke/VarHandle" ∧ (parseMethodDescriptor yX7_commonDivisor.desc).map (fun d => d.parameters.length) = some 2 := by decide +kernel
theorem co_X7_compare : Cond.code yX7_compare cX7_compare 14 (some .int) ∈ ALL := (ALL_at 473 (by decide +kernel) rfl)
theorem sm_X7_compare : Cond.static yX7_compare ∈ ALL := (ALL_at 472 (by decide +kernel) rfl)
theorem sd_X7_compare : yX7_compare.cls ≠ "java/lang/invoke/MethodHandle" ∧ yX7_compare.cls ≠ "java/lang/invoke/VarHandle" ∧ (parseMethodDescriptor yX7_compare.desc).map (fun d => d.parameters.length) = some 4 := by decide +kernel
theorem co_X8_init : Cond.code yX8_init cX8_init 1 none ∈ ALL := (ALL_at 546 (by decide +kernel) rfl)
theorem im_X8_init : Cond.instanceMethod yX8_init ∈ ALL := (ALL_at 545 (by decide +kernel) rfl)
theorem sd_X8_init : yX8_init.cls ≠ "java/lang/invoke/MethodHandle" ∧ yX8_init.cls ≠ "java/lang/invoke/VarHandle" ∧ (parseMethodDescriptor yX8_init.desc).map (fun d => d.parameters.length) = some 0 := by decide +kernel
theorem co_X8_in : Cond.code yX8_in cX8_in 3 (some .boolean) ∈ ALL := (ALL_at 625 (by decide +kernel) rfl)
theorem sm_X8_in : Cond.static yX8_in ∈ ALL := (ALL_at 624 (by decide +kernel) rfl)
theorem sd_X8_in : yX8_in.cls ≠ "java/lang/invoke/MethodHandle" ∧ yX8_in.cls ≠ "java/lang/invoke/VarHandle" ∧ (parseMethodDescriptor yX8_in.desc).map (fun d => d.parameters.length) = some 3 := by decide +kernel
theorem co_X8_layer : Cond.code yX8_layer cX8_layer 4 (some .int) ∈ ALL := (ALL_at 622 (by decide +kernel) rfl)
theorem im_X8_layer : Cond.instanceMethod yX8_layer ∈ ALL := (ALL_at 620 (by decide +kernel) rfl)
theorem se_X8_layer : Cond.selects RX8 yX8_layer yX8_layer ∈ ALL := (ALL_at 621 (by decide +kernel) rfl)
theorem sd_X8_layer : yX8_layer.cls ≠ "java/lang/invoke/MethodHandle" ∧ yX8_layer.cls ≠ "java/lang/invoke/VarHandle" ∧ (parseMethodDescriptor yX8_layer.desc).map (fun d => d.parameters.length) = some 3 := by decide +kernel
theorem co_X8_change : Cond.code yX8_change cX8_change 5 (some .int) ∈ ALL := (ALL_at 629 (by decide +kernel) rfl)
theorem im_X8_change : Cond.instanceMethod yX8_change ∈ ALL := (ALL_at 627 (by decide +kernel) rfl)
theorem se_X8_change : Cond.selects RX8 yX8_change yX8_change ∈ ALL := (ALL_at 628 (by decide +kernel) rfl)
theorem sd_X8_change : yX8_change.cls ≠ "java/lang/invoke/MethodHandle" ∧ yX8_change.cls ≠ "java/lang/invoke/VarHandle" ∧ (parseMethodDescriptor yX8_change.desc).map (fun d => d.parameters.length) = some 3 := by decide +kernel
theorem co_X8_rule : Cond.code yX8_rule cX8_rule 4 (some .int) ∈ ALL := (ALL_at 633 (by decide +kernel) rfl)
theorem im_X8_rule : Cond.instanceMethod yX8_rule ∈ ALL := (ALL_at 631 (by decide +kernel) rfl)
theorem se_X8_rule : Cond.selects RX8 yX8_rule yX8_rule ∈ ALL := (ALL_at 632 (by decide +kernel) rfl)
theorem sd_X8_rule : yX8_rule.cls ≠ "java/lang/invoke/MethodHandle" ∧ yX8_rule.cls ≠ "java/lang/invoke/VarHandle" ∧ (parseMethodDescriptor yX8_rule.desc).map (fun d => d.parameters.length) = some 2 := by decide +kernel
theorem co_X8_layerOf : Cond.code yX8_layerOf cX8_layerOf 4 (some .int) ∈ ALL := (ALL_at 668 (by decide +kernel) rfl)
theorem im_X8_layerOf : Cond.instanceMethod yX8_layerOf ∈ ALL := (ALL_at 667 (by decide +kernel) rfl)
theorem se_X8_layerOf : Cond.selects RX8 yX8_layerOf yX8_layerOf ∈ ALL := (ALL_at 37 (by decide +kernel) rfl)
theorem sd_X8_layerOf : yX8_layerOf.cls ≠ "java/lang/invoke/MethodHandle" ∧ yX8_layerOf.cls ≠ "java/lang/invoke/VarHandle" ∧ (parseMethodDescriptor yX8_layerOf.desc).map (fun d => d.parameters.length) = some 1 := by decide +kernel
theorem co_X8_sideOf : Cond.code yX8_sideOf cX8_sideOf 3 (some .int) ∈ ALL := (ALL_at 664 (by decide +kernel) rfl)
theorem im_X8_sideOf : Cond.instanceMethod yX8_sideOf ∈ ALL := (ALL_at 663 (by decide +kernel) rfl)
theorem se_X8_sideOf : Cond.selects RX8 yX8_sideOf yX8_sideOf ∈ ALL := (ALL_at 36 (by decide +kernel) rfl)
theorem sd_X8_sideOf : yX8_sideOf.cls ≠ "java/lang/invoke/MethodHandle" ∧ yX8_sideOf.cls ≠ "java/lang/invoke/VarHandle" ∧ (parseMethodDescriptor yX8_sideOf.desc).map (fun d => d.parameters.length) = some 1 := by decide +kernel
theorem co_X8_tipOf : Cond.code yX8_tipOf cX8_tipOf 3 (some .int) ∈ ALL := (ALL_at 676 (by decide +kernel) rfl)
theorem im_X8_tipOf : Cond.instanceMethod yX8_tipOf ∈ ALL := (ALL_at 675 (by decide +kernel) rfl)
theorem se_X8_tipOf : Cond.selects RX8 yX8_tipOf yX8_tipOf ∈ ALL := (ALL_at 39 (by decide +kernel) rfl)
theorem sd_X8_tipOf : yX8_tipOf.cls ≠ "java/lang/invoke/MethodHandle" ∧ yX8_tipOf.cls ≠ "java/lang/invoke/VarHandle" ∧ (parseMethodDescriptor yX8_tipOf.desc).map (fun d => d.parameters.length) = some 1 := by decide +kernel
theorem co_X8_pullOf : Cond.code yX8_pullOf cX8_pullOf 4 (some .int) ∈ ALL := (ALL_at 660 (by decide +kernel) rfl)
theorem im_X8_pullOf : Cond.instanceMethod yX8_pullOf ∈ ALL := (ALL_at 659 (by decide +kernel) rfl)
theorem se_X8_pullOf : Cond.selects RX8 yX8_pullOf yX8_pullOf ∈ ALL := (ALL_at 35 (by decide +kernel) rfl)
theorem sd_X8_pullOf : yX8_pullOf.cls ≠ "java/lang/invoke/MethodHandle" ∧ yX8_pullOf.cls ≠ "java/lang/invoke/VarHandle" ∧ (parseMethodDescriptor yX8_pullOf.desc).map (fun d => d.parameters.length) = some 1 := by decide +kernel
theorem co_X8_isPile : Cond.code yX8_isPile cX8_isPile 2 (some .boolean) ∈ ALL := (ALL_at 648 (by decide +kernel) rfl)
theorem im_X8_isPile : Cond.instanceMethod yX8_isPile ∈ ALL := (ALL_at 647 (by decide +kernel) rfl)
theorem se_X8_isPile : Cond.selects RX8 yX8_isPile yX8_isPile ∈ ALL := (ALL_at 34 (by decide +kernel) rfl)
theorem sd_X8_isPile : yX8_isPile.cls ≠ "java/lang/invoke/MethodHandle" ∧ yX8_isPile.cls ≠ "java/lang/invoke/VarHandle" ∧ (parseMethodDescriptor yX8_isPile.desc).map (fun d => d.parameters.length) = some 1 := by decide +kernel
theorem co_X8_isPlace : Cond.code yX8_isPlace cX8_isPlace 2 (some .boolean) ∈ ALL := (ALL_at 640 (by decide +kernel) rfl)
theorem sm_X8_isPlace : Cond.static yX8_isPlace ∈ ALL := (ALL_at 639 (by decide +kernel) rfl)
theorem sd_X8_isPlace : yX8_isPlace.cls ≠ "java/lang/invoke/MethodHandle" ∧ yX8_isPlace.cls ≠ "java/lang/invoke/VarHandle" ∧ (parseMethodDescriptor yX8_isPlace.desc).map (fun d => d.parameters.length) = some 2 := by decide +kernel
theorem co_X8_pile : Cond.code yX8_pile cX8_pile 5 (some .int) ∈ ALL := (ALL_at 637 (by decide +kernel) rfl)
theorem im_X8_pile : Cond.instanceMethod yX8_pile ∈ ALL := (ALL_at 635 (by decide +kernel) rfl)
theorem se_X8_pile : Cond.selects RX8 yX8_pile yX8_pile ∈ ALL := (ALL_at 636 (by decide +kernel) rfl)
theorem sd_X8_pile : yX8_pile.cls ≠ "java/lang/invoke/MethodHandle" ∧ yX8_pile.cls ≠ "java/lang/invoke/VarHandle" ∧ (parseMethodDescriptor yX8_pile.desc).map (fun d => d.parameters.length) = some 4 := by decide +kernel
theorem co_X8_shift : Cond.code yX8_shift cX8_shift 4 (some .int) ∈ ALL := (ALL_at 644 (by decide +kernel) rfl)
theorem im_X8_shift : Cond.instanceMethod yX8_shift ∈ ALL := (ALL_at 642 (by decide +kernel) rfl)
theorem se_X8_shift : Cond.selects RX8 yX8_shift yX8_shift ∈ ALL := (ALL_at 643 (by decide +kernel) rfl)
theorem sd_X8_shift : yX8_shift.cls ≠ "java/lang/invoke/MethodHandle" ∧ yX8_shift.cls ≠ "java/lang/invoke/VarHandle" ∧ (parseMethodDescriptor yX8_shift.desc).map (fun d => d.parameters.length) = some 3 := by decide +kernel
theorem co_X8_whole : Cond.code yX8_whole cX8_whole 4 (some .int) ∈ ALL := (ALL_at 652 (by decide +kernel) rfl)
theorem im_X8_whole : Cond.instanceMethod yX8_whole ∈ ALL := (ALL_at 650 (by decide +kernel) rfl)
theorem se_X8_whole : Cond.selects RX8 yX8_whole yX8_whole ∈ ALL := (ALL_at 651 (by decide +kernel) rfl)
theorem sd_X8_whole : yX8_whole.cls ≠ "java/lang/invoke/MethodHandle" ∧ yX8_whole.cls ≠ "java/lang/invoke/VarHandle" ∧ (parseMethodDescriptor yX8_whole.desc).map (fun d => d.parameters.length) = some 2 := by decide +kernel
theorem co_X8_bearingOf : Cond.code yX8_bearingOf cX8_bearingOf 2 (some .int) ∈ ALL := (ALL_at 672 (by decide +kernel) rfl)
theorem im_X8_bearingOf : Cond.instanceMethod yX8_bearingOf ∈ ALL := (ALL_at 671 (by decide +kernel) rfl)
theorem se_X8_bearingOf : Cond.selects RX8 yX8_bearingOf yX8_bearingOf ∈ ALL := (ALL_at 38 (by decide +kernel) rfl)
theorem sd_X8_bearingOf : yX8_bearingOf.cls ≠ "java/lang/invoke/MethodHandle" ∧ yX8_bearingOf.cls ≠ "java/lang/invoke/VarHandle" ∧ (parseMethodDescriptor yX8_bearingOf.desc).map (fun d => d.parameters.length) = some 1 := by decide +kernel
theorem co_X8_about : Cond.code yX8_about cX8_about 3 (some .int) ∈ ALL := (ALL_at 656 (by decide +kernel) rfl)
theorem im_X8_about : Cond.instanceMethod yX8_about ∈ ALL := (ALL_at 654 (by decide +kernel) rfl)
theorem se_X8_about : Cond.selects RX8 yX8_about yX8_about ∈ ALL := (ALL_at 655 (by decide +kernel) rfl)
theorem sd_X8_about : yX8_about.cls ≠ "java/lang/invoke/MethodHandle" ∧ yX8_about.cls ≠ "java/lang/invoke/VarHandle" ∧ (parseMethodDescriptor yX8_about.desc).map (fun d => d.parameters.length) = some 2 := by decide +kernel
theorem co_X8_isCase : Cond.code yX8_isCase cX8_isCase 1 (some .boolean) ∈ ALL := (ALL_at 683 (by decide +kernel) rfl)
theorem sm_X8_isCase : Cond.static yX8_isCase ∈ ALL := (ALL_at 682 (by decide +kernel) rfl)
theorem sd_X8_isCase : yX8_isCase.cls ≠ "java/lang/invoke/MethodHandle" ∧ yX8_isCase.cls ≠ "java/lang/invoke/VarHandle" ∧ (parseMethodDescriptor yX8_isCase.desc).map (fun d => d.parameters.length) = some 1 := by decide +kernel
theorem co_X8_load : Cond.code yX8_load cX8_load 6 (some .int) ∈ ALL := (ALL_at 680 (by decide +kernel) rfl)
theorem im_X8_load : Cond.instanceMethod yX8_load ∈ ALL := (ALL_at 678 (by decide +kernel) rfl)
theorem se_X8_load : Cond.selects RX8 yX8_load yX8_load ∈ ALL := (ALL_at 679 (by decide +kernel) rfl)
theorem sd_X8_load : yX8_load.cls ≠ "java/lang/invoke/MethodHandle" ∧ yX8_load.cls ≠ "java/lang/invoke/VarHandle" ∧ (parseMethodDescriptor yX8_load.desc).map (fun d => d.parameters.length) = some 4 := by decide +kernel
theorem co_X8_noLoads : Cond.code yX8_noLoads cX8_noLoads 3 (some .int) ∈ ALL := (ALL_at 687 (by decide +kernel) rfl)
theorem im_X8_noLoads : Cond.instanceMethod yX8_noLoads ∈ ALL := (ALL_at 685 (by decide +kernel) rfl)
theorem se_X8_noLoads : Cond.selects RX8 yX8_noLoads yX8_noLoads ∈ ALL := (ALL_at 686 (by decide +kernel) rfl)
theorem sd_X8_noLoads : yX8_noLoads.cls ≠ "java/lang/invoke/MethodHandle" ∧ yX8_noLoads.cls ≠ "java/lang/invoke/VarHandle" ∧ (parseMethodDescriptor yX8_noLoads.desc).map (fun d => d.parameters.length) = some 1 := by decide +kernel
theorem co_X8_wholeSet : Cond.code yX8_wholeSet cX8_wholeSet 3 (some .int) ∈ ALL := (ALL_at 695 (by decide +kernel) rfl)
theorem im_X8_wholeSet : Cond.instanceMethod yX8_wholeSet ∈ ALL := (ALL_at 694 (by decide +kernel) rfl)
theorem se_X8_wholeSet : Cond.selects RX8 yX8_wholeSet yX8_wholeSet ∈ ALL := (ALL_at 40 (by decide +kernel) rfl)
theorem sd_X8_wholeSet : yX8_wholeSet.cls ≠ "java/lang/invoke/MethodHandle" ∧ yX8_wholeSet.cls ≠ "java/lang/invoke/VarHandle" ∧ (parseMethodDescriptor yX8_wholeSet.desc).map (fun d => d.parameters.length) = some 0 := by decide +kernel
theorem co_X8_solves : Cond.code yX8_solves cX8_solves 24 (some .boolean) ∈ ALL := (ALL_at 699 (by decide +kernel) rfl)
theorem im_X8_solves : Cond.instanceMethod yX8_solves ∈ ALL := (ALL_at 698 (by decide +kernel) rfl)
theorem se_X8_solves : Cond.selects RX8 yX8_solves yX8_solves ∈ ALL := (ALL_at 41 (by decide +kernel) rfl)
theorem sd_X8_solves : yX8_solves.cls ≠ "java/lang/invoke/MethodHandle" ∧ yX8_solves.cls ≠ "java/lang/invoke/VarHandle" ∧ (parseMethodDescriptor yX8_solves.desc).map (fun d => d.parameters.length) = some 2 := by decide +kernel
theorem co_X8_shareOf : Cond.code yX8_shareOf cX8_shareOf 2 (some .long) ∈ ALL := (ALL_at 710 (by decide +kernel) rfl)
theorem im_X8_shareOf : Cond.instanceMethod yX8_shareOf ∈ ALL := (ALL_at 709 (by decide +kernel) rfl)
theorem se_X8_shareOf : Cond.selects RX8 yX8_shareOf yX8_shareOf ∈ ALL := (ALL_at 43 (by decide +kernel) rfl)
theorem sd_X8_shareOf : yX8_shareOf.cls ≠ "java/lang/invoke/MethodHandle" ∧ yX8_shareOf.cls ≠ "java/lang/invoke/VarHandle" ∧ (parseMethodDescriptor yX8_shareOf.desc).map (fun d => d.parameters.length) = some 1 := by decide +kernel
theorem co_X8_common : Cond.code yX8_common cX8_common 10 (some .long) ∈ ALL := (ALL_at 706 (by decide +kernel) rfl)
theorem sm_X8_common : Cond.static yX8_common ∈ ALL := (ALL_at 705 (by decide +kernel) rfl)
theorem sd_X8_common : yX8_common.cls ≠ "java/lang/invoke/MethodHandle" ∧ yX8_common.cls ≠ "java/lang/invoke/VarHandle" ∧ (parseMethodDescriptor yX8_common.desc).map (fun d => d.parameters.length) = some 2 := by decide +kernel
theorem co_X8_tell : Cond.code yX8_tell cX8_tell 8 none ∈ ALL := (ALL_at 703 (by decide +kernel) rfl)
theorem im_X8_tell : Cond.instanceMethod yX8_tell ∈ ALL := (ALL_at 702 (by decide +kernel) rfl)
theorem se_X8_tell : Cond.selects RX8 yX8_tell yX8_tell ∈ ALL := (ALL_at 42 (by decide +kernel) rfl)
theorem sd_X8_tell : yX8_tell.cls ≠ "java/lang/invoke/MethodHandle" ∧ yX8_tell.cls ≠ "java/lang/invoke/VarHandle" ∧ (parseMethodDescriptor yX8_tell.desc).map (fun d => d.parameters.length) = some 3 := by decide +kernel
theorem co_X8_shares : Cond.code yX8_shares cX8_shares 3 (some .int) ∈ ALL := (ALL_at 691 (by decide +kernel) rfl)
theorem im_X8_shares : Cond.instanceMethod yX8_shares ∈ ALL := (ALL_at 689 (by decide +kernel) rfl)
theorem se_X8_shares : Cond.selects RX8 yX8_shares yX8_shares ∈ ALL := (ALL_at 690 (by decide +kernel) rfl)
theorem sd_X8_shares : yX8_shares.cls ≠ "java/lang/invoke/MethodHandle" ∧ yX8_shares.cls ≠ "java/lang/invoke/VarHandle" ∧ (parseMethodDescriptor yX8_shares.desc).map (fun d => d.parameters.length) = some 1 := by decide +kernel
theorem co_X8_isOver : Cond.code yX8_isOver cX8_isOver 4 (some .boolean) ∈ ALL := (ALL_at 718 (by decide +kernel) rfl)
theorem im_X8_isOver : Cond.instanceMethod yX8_isOver ∈ ALL := (ALL_at 717 (by decide +kernel) rfl)
theorem se_X8_isOver : Cond.selects RX8 yX8_isOver yX8_isOver ∈ ALL := (ALL_at 44 (by decide +kernel) rfl)
theorem sd_X8_isOver : yX8_isOver.cls ≠ "java/lang/invoke/MethodHandle" ∧ yX8_isOver.cls ≠ "java/lang/invoke/VarHandle" ∧ (parseMethodDescriptor yX8_isOver.desc).map (fun d => d.parameters.length) = some 1 := by decide +kernel
theorem co_X8_over : Cond.code yX8_over cX8_over 5 (some .int) ∈ ALL := (ALL_at 714 (by decide +kernel) rfl)
theorem im_X8_over : Cond.instanceMethod yX8_over ∈ ALL := (ALL_at 712 (by decide +kernel) rfl)
theorem se_X8_over : Cond.selects RX8 yX8_over yX8_over ∈ ALL := (ALL_at 713 (by decide +kernel) rfl)
theorem sd_X8_over : yX8_over.cls ≠ "java/lang/invoke/MethodHandle" ∧ yX8_over.cls ≠ "java/lang/invoke/VarHandle" ∧ (parseMethodDescriptor yX8_over.desc).map (fun d => d.parameters.length) = some 1 := by decide +kernel
theorem co_X8_isLess : Cond.code yX8_isLess cX8_isLess 25 (some .boolean) ∈ ALL := (ALL_at 725 (by decide +kernel) rfl)
theorem sm_X8_isLess : Cond.static yX8_isLess ∈ ALL := (ALL_at 724 (by decide +kernel) rfl)
theorem sd_X8_isLess : yX8_isLess.cls ≠ "java/lang/invoke/MethodHandle" ∧ yX8_isLess.cls ≠ "java/lang/invoke/VarHandle" ∧ (parseMethodDescriptor yX8_isLess.desc).map (fun d => d.parameters.length) = some 4 := by decide +kernel
theorem co_X8_end : Cond.code yX8_end cX8_end 15 (some .int) ∈ ALL := (ALL_at 722 (by decide +kernel) rfl)
theorem im_X8_end : Cond.instanceMethod yX8_end ∈ ALL := (ALL_at 720 (by decide +kernel) rfl)
theorem se_X8_end : Cond.selects RX8 yX8_end yX8_end ∈ ALL := (ALL_at 721 (by decide +kernel) rfl)
theorem sd_X8_end : yX8_end.cls ≠ "java/lang/invoke/MethodHandle" ∧ yX8_end.cls ≠ "java/lang/invoke/VarHandle" ∧ (parseMethodDescriptor yX8_end.desc).map (fun d => d.parameters.length) = some 1 := by decide +kernel
theorem co_X8_areApart : Cond.code yX8_areApart cX8_areApart 7 (some .boolean) ∈ ALL := (ALL_at 740 (by decide +kernel) rfl)
theorem im_X8_areApart : Cond.instanceMethod yX8_areApart ∈ ALL := (ALL_at 739 (by decide +kernel) rfl)
theorem se_X8_areApart : Cond.selects RX8 yX8_areApart yX8_areApart ∈ ALL := (ALL_at 46 (by decide +kernel) rfl)
theorem sd_X8_areApart : yX8_areApart.cls ≠ "java/lang/invoke/MethodHandle" ∧ yX8_areApart.cls ≠ "java/lang/invoke/VarHandle" ∧ (parseMethodDescriptor yX8_areApart.desc).map (fun d => d.parameters.length) = some 1 := by decide +kernel
theorem co_X8_holds : Cond.code yX8_holds cX8_holds 5 (some .boolean) ∈ ALL := (ALL_at 736 (by decide +kernel) rfl)
theorem im_X8_holds : Cond.instanceMethod yX8_holds ∈ ALL := (ALL_at 735 (by decide +kernel) rfl)
theorem se_X8_holds : Cond.selects RX8 yX8_holds yX8_holds ∈ ALL := (ALL_at 45 (by decide +kernel) rfl)
theorem sd_X8_holds : yX8_holds.cls ≠ "java/lang/invoke/MethodHandle" ∧ yX8_holds.cls ≠ "java/lang/invoke/VarHandle" ∧ (parseMethodDescriptor yX8_holds.desc).map (fun d => d.parameters.length) = some 1 := by decide +kernel
theorem co_X8_bits : Cond.code yX8_bits cX8_bits 3 (some .int) ∈ ALL := (ALL_at 732 (by decide +kernel) rfl)
theorem sm_X8_bits : Cond.static yX8_bits ∈ ALL := (ALL_at 731 (by decide +kernel) rfl)
theorem sd_X8_bits : yX8_bits.cls ≠ "java/lang/invoke/MethodHandle" ∧ yX8_bits.cls ≠ "java/lang/invoke/VarHandle" ∧ (parseMethodDescriptor yX8_bits.desc).map (fun d => d.parameters.length) = some 1 := by decide +kernel
theorem co_X8_least : Cond.code yX8_least cX8_least 4 (some .int) ∈ ALL := (ALL_at 729 (by decide +kernel) rfl)
theorem im_X8_least : Cond.instanceMethod yX8_least ∈ ALL := (ALL_at 727 (by decide +kernel) rfl)
theorem se_X8_least : Cond.selects RX8 yX8_least yX8_least ∈ ALL := (ALL_at 728 (by decide +kernel) rfl)
theorem sd_X8_least : yX8_least.cls ≠ "java/lang/invoke/MethodHandle" ∧ yX8_least.cls ≠ "java/lang/invoke/VarHandle" ∧ (parseMethodDescriptor yX8_least.desc).map (fun d => d.parameters.length) = some 0 := by decide +kernel
theorem co_X8_drive : Cond.code yX8_drive cX8_drive 13 (some .int) ∈ ALL := (ALL_at 744 (by decide +kernel) rfl)
theorem im_X8_drive : Cond.instanceMethod yX8_drive ∈ ALL := (ALL_at 742 (by decide +kernel) rfl)
theorem se_X8_drive : Cond.selects RX8 yX8_drive yX8_drive ∈ ALL := (ALL_at 743 (by decide +kernel) rfl)
theorem sd_X8_drive : yX8_drive.cls ≠ "java/lang/invoke/MethodHandle" ∧ yX8_drive.cls ≠ "java/lang/invoke/VarHandle" ∧ (parseMethodDescriptor yX8_drive.desc).map (fun d => d.parameters.length) = some 3 := by decide +kernel
theorem co_X8_drag : Cond.code yX8_drag cX8_drag 11 (some .int) ∈ ALL := (ALL_at 748 (by decide +kernel) rfl)
theorem im_X8_drag : Cond.instanceMethod yX8_drag ∈ ALL := (ALL_at 746 (by decide +kernel) rfl)
theorem se_X8_drag : Cond.selects RX8 yX8_drag yX8_drag ∈ ALL := (ALL_at 747 (by decide +kernel) rfl)
theorem sd_X8_drag : yX8_drag.cls ≠ "java/lang/invoke/MethodHandle" ∧ yX8_drag.cls ≠ "java/lang/invoke/VarHandle" ∧ (parseMethodDescriptor yX8_drag.desc).map (fun d => d.parameters.length) = some 2 := by decide +kernel
theorem co_X8_number : Cond.code yX8_number cX8_number 3 (some .long) ∈ ALL := (ALL_at 754 (by decide +kernel) rfl)
theorem im_X8_number : Cond.instanceMethod yX8_number ∈ ALL := (ALL_at 752 (by decide +kernel) rfl)
theorem se_X8_number : Cond.selects RX8 yX8_number yX8_number ∈ ALL := (ALL_at 753 (by decide +kernel) rfl)
theorem sd_X8_number : yX8_number.cls ≠ "java/lang/invoke/MethodHandle" ∧ yX8_number.cls ≠ "java/lang/invoke/VarHandle" ∧ (parseMethodDescriptor yX8_number.desc).map (fun d => d.parameters.length) = some 2 := by decide +kernel
theorem co_X8_count : Cond.code yX8_count cX8_count 4 (some .int) ∈ ALL := (ALL_at 760 (by decide +kernel) rfl)
theorem im_X8_count : Cond.instanceMethod yX8_count ∈ ALL := (ALL_at 758 (by decide +kernel) rfl)
theorem se_X8_count : Cond.selects RX8 yX8_count yX8_count ∈ ALL := (ALL_at 759 (by decide +kernel) rfl)
theorem sd_X8_count : yX8_count.cls ≠ "java/lang/invoke/MethodHandle" ∧ yX8_count.cls ≠ "java/lang/invoke/VarHandle" ∧ (parseMethodDescriptor yX8_count.desc).map (fun d => d.parameters.length) = some 1 := by decide +kernel
theorem co_J6_bitCount_0f7a4 : Cond.code yJ6_bitCount_0f7a4 cJ6_bitCount_0f7a4 1 (some .int) ∈ ALL := (ALL_at 483 (by decide +kernel) rfl)
theorem sm_J6_bitCount_0f7a4 : Cond.static yJ6_bitCount_0f7a4 ∈ ALL := (ALL_at 482 (by decide +kernel) rfl)
theorem sd_J6_bitCount_0f7a4 : yJ6_bitCount_0f7a4.cls ≠ "java/lang/invoke/MethodHandle" ∧ yJ6_bitCount_0f7a4.cls ≠ "java/lang/invoke/VarHandle" ∧ (parseMethodDescriptor yJ6_bitCount_0f7a4.desc).map (fun d => d.parameters.length) = some 1 := by decide +kernel
theorem co_J13_compare_74951 : Cond.code yJ13_compare_74951 cJ13_compare_74951 4 (some .int) ∈ ALL := (ALL_at 476 (by decide +kernel) rfl)
theorem sm_J13_compare_74951 : Cond.static yJ13_compare_74951 ∈ ALL := (ALL_at 475 (by decide +kernel) rfl)
theorem sd_J13_compare_74951 : yJ13_compare_74951.cls ≠ "java/lang/invoke/MethodHandle" ∧ yJ13_compare_74951.cls ≠ "java/lang/invoke/VarHandle" ∧ (parseMethodDescriptor yJ13_compare_74951.desc).map (fun d => d.parameters.length) = some 2 := by decide +kernel
theorem co_J9_abs_067f4 : Cond.code yJ9_abs_067f4 cJ9_abs_067f4 2 (some .long) ∈ ALL := (ALL_at 436 (by decide +kernel) rfl)
theorem sm_J9_abs_067f4 : Cond.static yJ9_abs_067f4 ∈ ALL := (ALL_at 435 (by decide +kernel) rfl)
theorem sd_J9_abs_067f4 : yJ9_abs_067f4.cls ≠ "java/lang/invoke/MethodHandle" ∧ yJ9_abs_067f4.cls ≠ "java/lang/invoke/VarHandle" ∧ (parseMethodDescriptor yJ9_abs_067f4.desc).map (fun d => d.parameters.length) = some 1 := by decide +kernel
theorem co_J9_max_7cf53 : Cond.code yJ9_max_7cf53 cJ9_max_7cf53 2 (some .int) ∈ ALL := (ALL_at 377 (by decide +kernel) rfl)
theorem sm_J9_max_7cf53 : Cond.static yJ9_max_7cf53 ∈ ALL := (ALL_at 376 (by decide +kernel) rfl)
theorem sd_J9_max_7cf53 : yJ9_max_7cf53.cls ≠ "java/lang/invoke/MethodHandle" ∧ yJ9_max_7cf53.cls ≠ "java/lang/invoke/VarHandle" ∧ (parseMethodDescriptor yJ9_max_7cf53.desc).map (fun d => d.parameters.length) = some 2 := by decide +kernel
theorem co_J9_min_7cf53 : Cond.code yJ9_min_7cf53 cJ9_min_7cf53 2 (some .int) ∈ ALL := (ALL_at 374 (by decide +kernel) rfl)
theorem sm_J9_min_7cf53 : Cond.static yJ9_min_7cf53 ∈ ALL := (ALL_at 373 (by decide +kernel) rfl)
theorem sd_J9_min_7cf53 : yJ9_min_7cf53.cls ≠ "java/lang/invoke/MethodHandle" ∧ yJ9_min_7cf53.cls ≠ "java/lang/invoke/VarHandle" ∧ (parseMethodDescriptor yJ9_min_7cf53.desc).map (fun d => d.parameters.length) = some 2 := by decide +kernel
theorem in_X0 : Cond.initialized RX0 ∈ ALL := (ALL_at 52 (by decide +kernel) rfl)
theorem inS_X0 : Cond.initialized "PileCaps$Cap" ∈ ALL := (ALL_at 52 (by decide +kernel) rfl)
theorem in_X1 : Cond.initialized RX1 ∈ ALL := (ALL_at 54 (by decide +kernel) rfl)
theorem inS_X1 : Cond.initialized "PileCaps$Driving" ∈ ALL := (ALL_at 54 (by decide +kernel) rfl)
theorem in_X2 : Cond.initialized RX2 ∈ ALL := (ALL_at 49 (by decide +kernel) rfl)
theorem inS_X2 : Cond.initialized "PileCaps$Ground" ∈ ALL := (ALL_at 49 (by decide +kernel) rfl)
theorem in_X3 : Cond.initialized RX3 ∈ ALL := (ALL_at 53 (by decide +kernel) rfl)
theorem inS_X3 : Cond.initialized "PileCaps$Limits" ∈ ALL := (ALL_at 53 (by decide +kernel) rfl)
theorem in_X4 : Cond.initialized RX4 ∈ ALL := (ALL_at 51 (by decide +kernel) rfl)
theorem inS_X4 : Cond.initialized "PileCaps$Loads" ∈ ALL := (ALL_at 51 (by decide +kernel) rfl)
theorem in_X5 : Cond.initialized RX5 ∈ ALL := (ALL_at 50 (by decide +kernel) rfl)
theorem inS_X5 : Cond.initialized "PileCaps$Piles" ∈ ALL := (ALL_at 50 (by decide +kernel) rfl)
theorem in_X6 : Cond.initialized RX6 ∈ ALL := (ALL_at 55 (by decide +kernel) rfl)
theorem inS_X6 : Cond.initialized "PileCaps$Told" ∈ ALL := (ALL_at 55 (by decide +kernel) rfl)
theorem in_X7 : Cond.initialized RX7 ∈ ALL := (ALL_at 48 (by decide +kernel) rfl)
theorem inS_X7 : Cond.initialized "PileCaps" ∈ ALL := (ALL_at 48 (by decide +kernel) rfl)
theorem in_X8 : Cond.initialized RX8 ∈ ALL := (ALL_at 56 (by decide +kernel) rfl)
theorem inS_X8 : Cond.initialized "PileCapsModel" ∈ ALL := (ALL_at 56 (by decide +kernel) rfl)
theorem in_J6 : Cond.initialized RJ6 ∈ ALL := (ALL_at 59 (by decide +kernel) rfl)
theorem inS_J6 : Cond.initialized "java/lang/Integer" ∈ ALL := (ALL_at 59 (by decide +kernel) rfl)
theorem in_J9 : Cond.initialized RJ9 ∈ ALL := (ALL_at 57 (by decide +kernel) rfl)
theorem inS_J9 : Cond.initialized "java/lang/Math" ∈ ALL := (ALL_at 57 (by decide +kernel) rfl)
theorem co_Mmax : Cond.code Lib.Math.max.name Lib.Math.max.code 2 (some .int) ∈ ALL := (ALL_at 377 (by decide +kernel) rfl)
theorem sm_Mmax : Cond.static Lib.Math.max.name ∈ ALL := (ALL_at 376 (by decide +kernel) rfl)
theorem co_Mmin : Cond.code Lib.Math.min.name Lib.Math.min.code 2 (some .int) ∈ ALL := (ALL_at 374 (by decide +kernel) rfl)
theorem sm_Mmin : Cond.static Lib.Math.min.name ∈ ALL := (ALL_at 373 (by decide +kernel) rfl)
theorem co_Mabs : Cond.code Lib.MathLoose.abs_long.x Lib.MathLoose.abs_long.code 2 (some .long) ∈ ALL := (ALL_at 436 (by decide +kernel) rfl)
theorem sm_Mabs : Cond.static Lib.MathLoose.abs_long.x ∈ ALL := (ALL_at 435 (by decide +kernel) rfl)
theorem cl_L_7 : Cond.classLink RL 7 RX7 ∈ ALL := (ALL_at 60 (by decide +kernel) rfl)
theorem ml_L_9 : Cond.methodLink RL 9 yX7_init ∈ ALL := (ALL_at 62 (by decide +kernel) rfl)
theorem ml_X7_3 : Cond.methodLink RX7 3 objectInit ∈ ALL := (ALL_at 65 (by decide +kernel) rfl)
theorem cl_X7_9 : Cond.classLink RX7 9 RX2 ∈ ALL := (ALL_at 68 (by decide +kernel) rfl)
theorem ml_X7_11 : Cond.methodLinkNest RX7 11 yX2_init "PileCaps" ∈ lw_tbl := NWL_at 70 (by decide +kernel)
theorem ml_X2_3 : Cond.methodLink RX2 3 objectInit ∈ ALL := (ALL_at 73 (by decide +kernel) rfl)
theorem cl_X7_16 : Cond.classLink RX7 16 RX5 ∈ ALL := (ALL_at 92 (by decide +kernel) rfl)
theorem ml_X7_18 : Cond.methodLinkNest RX7 18 yX5_init "PileCaps" ∈ lw_tbl := NWL_at 94 (by decide +kernel)
theorem ml_X5_3 : Cond.methodLink RX5 3 objectInit ∈ ALL := (ALL_at 97 (by decide +kernel) rfl)
theorem cl_X7_23 : Cond.classLink RX7 23 RX4 ∈ ALL := (ALL_at 131 (by decide +kernel) rfl)
theorem ml_X7_25 : Cond.methodLinkNest RX7 25 yX4_init "PileCaps" ∈ lw_tbl := NWL_at 133 (by decide +kernel)
theorem ml_X4_3 : Cond.methodLink RX4 3 objectInit ∈ ALL := (ALL_at 136 (by decide +kernel) rfl)
theorem cl_X7_30 : Cond.classLink RX7 30 RX0 ∈ ALL := (ALL_at 155 (by decide +kernel) rfl)
theorem ml_X7_32 : Cond.methodLinkNest RX7 32 yX0_init "PileCaps" ∈ lw_tbl := NWL_at 157 (by decide +kernel)
theorem ml_X0_1 : Cond.methodLink RX0 1 objectInit ∈ ALL := (ALL_at 160 (by decide +kernel) rfl)
theorem cl_X7_39 : Cond.classLink RX7 39 RX3 ∈ ALL := (ALL_at 199 (by decide +kernel) rfl)
theorem ml_X7_41 : Cond.methodLinkNest RX7 41 yX3_init "PileCaps" ∈ lw_tbl := NWL_at 201 (by decide +kernel)
theorem ml_X3_3 : Cond.methodLink RX3 3 objectInit ∈ ALL := (ALL_at 204 (by decide +kernel) rfl)
theorem cl_X7_46 : Cond.classLink RX7 46 RX1 ∈ ALL := (ALL_at 215 (by decide +kernel) rfl)
theorem ml_X7_48 : Cond.methodLinkNest RX7 48 yX1_init "PileCaps" ∈ lw_tbl := NWL_at 217 (by decide +kernel)
theorem ml_X1_1 : Cond.methodLink RX1 1 objectInit ∈ ALL := (ALL_at 220 (by decide +kernel) rfl)
theorem cl_X7_53 : Cond.classLink RX7 53 RX6 ∈ ALL := (ALL_at 242 (by decide +kernel) rfl)
theorem ml_X7_55 : Cond.methodLinkNest RX7 55 yX6_init "PileCaps" ∈ lw_tbl := NWL_at 244 (by decide +kernel)
theorem ml_X6_3 : Cond.methodLink RX6 3 objectInit ∈ ALL := (ALL_at 247 (by decide +kernel) rfl)
theorem ml_L_13 : Cond.methodLink RL 13 yX7_layer ∈ ALL := (ALL_at 286 (by decide +kernel) rfl)
theorem ml_X7_64 : Cond.methodLink RX7 64 yX7_within ∈ ALL := (ALL_at 290 (by decide +kernel) rfl)
theorem ml_X7_68 : Cond.methodLink RX7 68 yX7_isSide ∈ ALL := (ALL_at 293 (by decide +kernel) rfl)
theorem ml_X7_72 : Cond.methodLink RX7 72 yX7_isTip ∈ ALL := (ALL_at 296 (by decide +kernel) rfl)
theorem ml_X7_78 : Cond.methodLinkNest RX7 78 yX2_add "PileCaps" ∈ lw_tbl := NWL_at 299 (by decide +kernel)
theorem ml_L_18 : Cond.methodLink RL 18 yX7_change ∈ ALL := (ALL_at 303 (by decide +kernel) rfl)
theorem ml_X7_82 : Cond.methodLinkNest RX7 82 yX2_has "PileCaps" ∈ lw_tbl := NWL_at 307 (by decide +kernel)
theorem ml_X7_85 : Cond.methodLinkNest RX7 85 yX2_setSide "PileCaps" ∈ lw_tbl := NWL_at 311 (by decide +kernel)
theorem ml_X7_89 : Cond.methodLinkNest RX7 89 yX2_setTip "PileCaps" ∈ lw_tbl := NWL_at 315 (by decide +kernel)
theorem ml_L_22 : Cond.methodLink RL 22 yX7_rule ∈ ALL := (ALL_at 319 (by decide +kernel) rfl)
theorem ml_X7_92 : Cond.methodLinkNest RX7 92 yX2_setScour "PileCaps" ∈ lw_tbl := NWL_at 323 (by decide +kernel)
theorem ml_L_27 : Cond.methodLink RL 27 yX7_pile ∈ ALL := (ALL_at 327 (by decide +kernel) rfl)
theorem ml_X7_96 : Cond.methodLink RX7 96 yX7_isPlace ∈ ALL := (ALL_at 331 (by decide +kernel) rfl)
theorem ml_X7_101 : Cond.methodLinkNest RX7 101 yX5_add "PileCaps" ∈ lw_tbl := NWL_at 334 (by decide +kernel)
theorem ml_X5_31 : Cond.methodLink RX5 31 yX5_place ∈ ALL := (ALL_at 338 (by decide +kernel) rfl)
theorem ml_X5_35 : Cond.methodLink RX5 35 yX5_setWhole ∈ ALL := (ALL_at 342 (by decide +kernel) rfl)
theorem ml_L_32 : Cond.methodLink RL 32 yX7_shift ∈ ALL := (ALL_at 346 (by decide +kernel) rfl)
theorem ml_X7_104 : Cond.methodLinkNest RX7 104 yX5_has "PileCaps" ∈ lw_tbl := NWL_at 350 (by decide +kernel)
theorem ml_X7_105 : Cond.methodLinkNest RX7 105 yX5_place "PileCaps" ∈ lw_tbl := NWL_at 354 (by decide +kernel)
theorem ml_L_36 : Cond.methodLink RL 36 yX7_whole ∈ ALL := (ALL_at 355 (by decide +kernel) rfl)
theorem ml_X7_109 : Cond.methodLinkNest RX7 109 yX5_isWhole "PileCaps" ∈ lw_tbl := NWL_at 359 (by decide +kernel)
theorem ml_X7_112 : Cond.methodLinkNest RX7 112 yX5_setWhole "PileCaps" ∈ lw_tbl := NWL_at 363 (by decide +kernel)
theorem ml_L_41 : Cond.methodLink RL 41 yX7_about ∈ ALL := (ALL_at 364 (by decide +kernel) rfl)
theorem ml_X7_129 : Cond.methodLinkNest RX7 129 yX2_pullOf "PileCaps" ∈ lw_tbl := NWL_at 368 (by decide +kernel)
theorem ml_X2_32 : Cond.methodLink RX2 32 Lib.Math.min.name ∈ ALL := (ALL_at 372 (by decide +kernel) rfl)
theorem ml_X2_38 : Cond.methodLink RX2 38 Lib.Math.max.name ∈ ALL := (ALL_at 375 (by decide +kernel) rfl)
theorem ml_X7_132 : Cond.methodLinkNest RX7 132 yX2_bearingOf "PileCaps" ∈ lw_tbl := NWL_at 378 (by decide +kernel)
theorem ml_X2_41 : Cond.methodLink RX2 41 yX2_pullOf ∈ ALL := (ALL_at 382 (by decide +kernel) rfl)
theorem ml_X2_44 : Cond.methodLink RX2 44 yX2_tipBelow ∈ ALL := (ALL_at 383 (by decide +kernel) rfl)
theorem ml_X2_28 : Cond.methodLink RX2 28 yX2_layerAt ∈ ALL := (ALL_at 387 (by decide +kernel) rfl)
theorem ml_L_45 : Cond.methodLink RL 45 yX7_load ∈ ALL := (ALL_at 391 (by decide +kernel) rfl)
theorem ml_X7_135 : Cond.methodLink RX7 135 yX7_isCase ∈ ALL := (ALL_at 395 (by decide +kernel) rfl)
theorem ml_X7_140 : Cond.methodLinkNest RX7 140 yX4_add "PileCaps" ∈ lw_tbl := NWL_at 398 (by decide +kernel)
theorem ml_L_49 : Cond.methodLink RL 49 yX7_noLoads ∈ ALL := (ALL_at 402 (by decide +kernel) rfl)
theorem ml_X7_141 : Cond.methodLinkNest RX7 141 yX4_clear "PileCaps" ∈ lw_tbl := NWL_at 406 (by decide +kernel)
theorem ml_L_54 : Cond.methodLink RL 54 yX7_shares ∈ ALL := (ALL_at 410 (by decide +kernel) rfl)
theorem ml_X7_144 : Cond.methodLink RX7 144 yX7_settle ∈ ALL := (ALL_at 414 (by decide +kernel) rfl)
theorem ml_X7_248 : Cond.methodLinkNest RX7 248 yX0_standOn "PileCaps" ∈ lw_tbl := NWL_at 418 (by decide +kernel)
theorem ml_X7_251 : Cond.methodLinkNest RX7 251 yX0_take "PileCaps" ∈ lw_tbl := NWL_at 422 (by decide +kernel)
theorem ml_X7_147 : Cond.methodLinkNest RX7 147 yX6_clear "PileCaps" ∈ lw_tbl := NWL_at 426 (by decide +kernel)
theorem ml_X7_156 : Cond.methodLinkNest RX7 156 yX6_add "PileCaps" ∈ lw_tbl := NWL_at 430 (by decide +kernel)
theorem ml_X6_22 : Cond.methodLink RX6 22 Lib.MathLoose.abs_long.x ∈ ALL := (ALL_at 434 (by decide +kernel) rfl)
theorem ml_X6_28 : Cond.methodLinkNest RX6 28 yX7_commonDivisor "PileCaps" ∈ lw_tbl := NWL_at 437 (by decide +kernel)
theorem ml_X7_165 : Cond.methodLinkNest RX7 165 yX0_share "PileCaps" ∈ lw_tbl := NWL_at 440 (by decide +kernel)
theorem ml_L_58 : Cond.methodLink RL 58 yX7_over ∈ ALL := (ALL_at 444 (by decide +kernel) rfl)
theorem ml_X7_169 : Cond.methodLinkNest RX7 169 yX3_measure "PileCaps" ∈ lw_tbl := NWL_at 448 (by decide +kernel)
theorem ml_X3_30 : Cond.methodLinkNest RX3 30 yX2_pullOf "PileCaps" ∈ lw_tbl := NWL_at 452 (by decide +kernel)
theorem ml_X3_36 : Cond.methodLinkNest RX3 36 yX2_bearingOf "PileCaps" ∈ lw_tbl := NWL_at 453 (by decide +kernel)
theorem ml_X7_176 : Cond.methodLink RX7 176 yX7_overloaded ∈ ALL := (ALL_at 454 (by decide +kernel) rfl)
theorem ml_X7_186 : Cond.methodLink RX7 186 Lib.MathLoose.abs_long.x ∈ ALL := (ALL_at 458 (by decide +kernel) rfl)
theorem ml_X7_182 : Cond.methodLinkNest RX7 182 yX3_against "PileCaps" ∈ lw_tbl := NWL_at 459 (by decide +kernel)
theorem ml_L_62 : Cond.methodLink RL 62 yX7_end ∈ ALL := (ALL_at 463 (by decide +kernel) rfl)
theorem ml_X7_179 : Cond.methodLink RX7 179 yX7_endsBefore ∈ ALL := (ALL_at 467 (by decide +kernel) rfl)
theorem ml_X7_255 : Cond.methodLink RX7 255 yX7_compare ∈ ALL := (ALL_at 471 (by decide +kernel) rfl)
theorem ml_X7_265 : Cond.methodLink RX7 265 yJ13_compare_74951 ∈ ALL := (ALL_at 474 (by decide +kernel) rfl)
theorem ml_L_66 : Cond.methodLink RL 66 yX7_least ∈ ALL := (ALL_at 477 (by decide +kernel) rfl)
theorem ml_X7_192 : Cond.methodLink RX7 192 yJ6_bitCount_0f7a4 ∈ ALL := (ALL_at 481 (by decide +kernel) rfl)
theorem kc_J6_265 : Cond.constant RJ6 265 (1431655765) ∈ ALL := (ALL_at 484 (by decide +kernel) rfl)
theorem kc_J6_266 : Cond.constant RJ6 266 (858993459) ∈ ALL := (ALL_at 485 (by decide +kernel) rfl)
theorem kc_J6_267 : Cond.constant RJ6 267 (252645135) ∈ ALL := (ALL_at 486 (by decide +kernel) rfl)
theorem ml_X7_197 : Cond.methodLinkNest RX7 197 yX3_measureSpacing "PileCaps" ∈ lw_tbl := NWL_at 487 (by decide +kernel)
theorem ml_X7_201 : Cond.methodLink RX7 201 yX7_holds ∈ ALL := (ALL_at 491 (by decide +kernel) rfl)
theorem ml_X7_259 : Cond.methodLinkNest RX7 259 yX3_spaced "PileCaps" ∈ lw_tbl := NWL_at 495 (by decide +kernel)
theorem ml_L_71 : Cond.methodLink RL 71 yX7_drive ∈ ALL := (ALL_at 499 (by decide +kernel) rfl)
theorem ml_X7_204 : Cond.methodLinkNest RX7 204 yX1_run "PileCaps" ∈ lw_tbl := NWL_at 503 (by decide +kernel)
theorem ml_X1_25 : Cond.methodLinkNest RX1 25 yX2_bearingOf "PileCaps" ∈ lw_tbl := NWL_at 507 (by decide +kernel)
theorem ml_X1_31 : Cond.methodLink RX1 31 yX1_goThrough ∈ ALL := (ALL_at 508 (by decide +kernel) rfl)
theorem ml_X1_35 : Cond.methodLink RX1 35 Lib.Math.max.name ∈ ALL := (ALL_at 512 (by decide +kernel) rfl)
theorem ml_L_75 : Cond.methodLink RL 75 yX7_drag ∈ ALL := (ALL_at 513 (by decide +kernel) rfl)
theorem kc_X7_223 : Cond.constant RX7 223 (100000) ∈ ALL := (ALL_at 517 (by decide +kernel) rfl)
theorem ml_X7_224 : Cond.methodLinkNest RX7 224 yX2_tipBelow "PileCaps" ∈ lw_tbl := NWL_at 518 (by decide +kernel)
theorem ml_X7_227 : Cond.methodLink RX7 227 yX7_tellDepth ∈ ALL := (ALL_at 519 (by decide +kernel) rfl)
theorem ml_X7_262 : Cond.methodLinkNest RX7 262 yX2_sideAt "PileCaps" ∈ lw_tbl := NWL_at 523 (by decide +kernel)
theorem kc_X7_231 : Cond.constantLong RX7 231 (2) ∈ ALL := (ALL_at 527 (by decide +kernel) rfl)
theorem ml_L_79 : Cond.methodLink RL 79 yX7_number ∈ ALL := (ALL_at 528 (by decide +kernel) rfl)
theorem kc_X7_233 : Cond.constantLong RX7 233 (-1) ∈ ALL := (ALL_at 532 (by decide +kernel) rfl)
theorem kc_X7_236 : Cond.constantLong RX7 236 (-4) ∈ ALL := (ALL_at 533 (by decide +kernel) rfl)
theorem ml_L_84 : Cond.methodLink RL 84 yX7_count ∈ ALL := (ALL_at 534 (by decide +kernel) rfl)
theorem ml_X7_244 : Cond.methodLinkNest RX7 244 yX4_all "PileCaps" ∈ lw_tbl := NWL_at 538 (by decide +kernel)
theorem cl_L_10 : Cond.classLink RL 10 RX8 ∈ ALL := (ALL_at 542 (by decide +kernel) rfl)
theorem ml_L_12 : Cond.methodLink RL 12 yX8_init ∈ ALL := (ALL_at 544 (by decide +kernel) rfl)
theorem ml_X8_1 : Cond.methodLink RX8 1 objectInit ∈ ALL := (ALL_at 547 (by decide +kernel) rfl)
theorem ml_L_17 : Cond.methodLink RL 17 yX8_layer ∈ ALL := (ALL_at 619 (by decide +kernel) rfl)
theorem ml_X8_54 : Cond.methodLink RX8 54 yX8_in ∈ ALL := (ALL_at 623 (by decide +kernel) rfl)
theorem ml_L_21 : Cond.methodLink RL 21 yX8_change ∈ ALL := (ALL_at 626 (by decide +kernel) rfl)
theorem ml_L_26 : Cond.methodLink RL 26 yX8_rule ∈ ALL := (ALL_at 630 (by decide +kernel) rfl)
theorem ml_L_31 : Cond.methodLink RL 31 yX8_pile ∈ ALL := (ALL_at 634 (by decide +kernel) rfl)
theorem ml_X8_78 : Cond.methodLink RX8 78 yX8_isPlace ∈ ALL := (ALL_at 638 (by decide +kernel) rfl)
theorem ml_L_35 : Cond.methodLink RL 35 yX8_shift ∈ ALL := (ALL_at 641 (by decide +kernel) rfl)
theorem ml_X8_82 : Cond.methodLink RX8 82 yX8_isPile ∈ ALL := (ALL_at 645 (by decide +kernel) rfl)
theorem ml_L_40 : Cond.methodLink RL 40 yX8_whole ∈ ALL := (ALL_at 649 (by decide +kernel) rfl)
theorem ml_L_44 : Cond.methodLink RL 44 yX8_about ∈ ALL := (ALL_at 653 (by decide +kernel) rfl)
theorem ml_X8_86 : Cond.methodLink RX8 86 yX8_pullOf ∈ ALL := (ALL_at 657 (by decide +kernel) rfl)
theorem ml_X8_72 : Cond.methodLink RX8 72 yX8_sideOf ∈ ALL := (ALL_at 661 (by decide +kernel) rfl)
theorem ml_X8_68 : Cond.methodLink RX8 68 yX8_layerOf ∈ ALL := (ALL_at 665 (by decide +kernel) rfl)
theorem ml_X8_92 : Cond.methodLink RX8 92 yX8_bearingOf ∈ ALL := (ALL_at 669 (by decide +kernel) rfl)
theorem ml_X8_89 : Cond.methodLink RX8 89 yX8_tipOf ∈ ALL := (ALL_at 673 (by decide +kernel) rfl)
theorem ml_L_48 : Cond.methodLink RL 48 yX8_load ∈ ALL := (ALL_at 677 (by decide +kernel) rfl)
theorem ml_X8_95 : Cond.methodLink RX8 95 yX8_isCase ∈ ALL := (ALL_at 681 (by decide +kernel) rfl)
theorem ml_L_53 : Cond.methodLink RL 53 yX8_noLoads ∈ ALL := (ALL_at 684 (by decide +kernel) rfl)
theorem ml_L_57 : Cond.methodLink RL 57 yX8_shares ∈ ALL := (ALL_at 688 (by decide +kernel) rfl)
theorem ml_X8_115 : Cond.methodLink RX8 115 yX8_wholeSet ∈ ALL := (ALL_at 692 (by decide +kernel) rfl)
theorem ml_X8_119 : Cond.methodLink RX8 119 yX8_solves ∈ ALL := (ALL_at 696 (by decide +kernel) rfl)
theorem ml_X8_122 : Cond.methodLink RX8 122 yX8_tell ∈ ALL := (ALL_at 700 (by decide +kernel) rfl)
theorem ml_X8_111 : Cond.methodLink RX8 111 yX8_common ∈ ALL := (ALL_at 704 (by decide +kernel) rfl)
theorem ml_X8_126 : Cond.methodLink RX8 126 yX8_shareOf ∈ ALL := (ALL_at 707 (by decide +kernel) rfl)
theorem ml_L_61 : Cond.methodLink RL 61 yX8_over ∈ ALL := (ALL_at 711 (by decide +kernel) rfl)
theorem ml_X8_133 : Cond.methodLink RX8 133 yX8_isOver ∈ ALL := (ALL_at 715 (by decide +kernel) rfl)
theorem ml_L_65 : Cond.methodLink RL 65 yX8_end ∈ ALL := (ALL_at 719 (by decide +kernel) rfl)
theorem ml_X8_136 : Cond.methodLink RX8 136 yX8_isLess ∈ ALL := (ALL_at 723 (by decide +kernel) rfl)
theorem ml_L_70 : Cond.methodLink RL 70 yX8_least ∈ ALL := (ALL_at 726 (by decide +kernel) rfl)
theorem ml_X8_143 : Cond.methodLink RX8 143 yX8_bits ∈ ALL := (ALL_at 730 (by decide +kernel) rfl)
theorem ml_X8_146 : Cond.methodLink RX8 146 yX8_holds ∈ ALL := (ALL_at 733 (by decide +kernel) rfl)
theorem ml_X8_140 : Cond.methodLink RX8 140 yX8_areApart ∈ ALL := (ALL_at 737 (by decide +kernel) rfl)
theorem ml_L_74 : Cond.methodLink RL 74 yX8_drive ∈ ALL := (ALL_at 741 (by decide +kernel) rfl)
theorem ml_L_78 : Cond.methodLink RL 78 yX8_drag ∈ ALL := (ALL_at 745 (by decide +kernel) rfl)
theorem kc_X8_149 : Cond.constant RX8 149 (100000) ∈ ALL := (ALL_at 749 (by decide +kernel) rfl)
theorem kc_X8_150 : Cond.constantLong RX8 150 (2) ∈ ALL := (ALL_at 750 (by decide +kernel) rfl)
theorem ml_L_83 : Cond.methodLink RL 83 yX8_number ∈ ALL := (ALL_at 751 (by decide +kernel) rfl)
theorem kc_X8_152 : Cond.constantLong RX8 152 (-1) ∈ ALL := (ALL_at 755 (by decide +kernel) rfl)
theorem kc_X8_154 : Cond.constantLong RX8 154 (-4) ∈ ALL := (ALL_at 756 (by decide +kernel) rfl)
theorem ml_L_87 : Cond.methodLink RL 87 yX8_count ∈ ALL := (ALL_at 757 (by decide +kernel) rfl)
theorem im_obj : Cond.instanceMethod objectInit ∈ ALL := (ALL_at 66 (by decide +kernel) rfl)
theorem co_obj : Cond.code objectInit ⟨#[0xb1]⟩ 1 none ∈ ALL := (ALL_at 67 (by decide +kernel) rfl)
theorem it_X0 : Cond.instantiable RX0 11 ∈ ALL := (ALL_at 156 (by decide +kernel) rfl)
theorem it_X1 : Cond.instantiable RX1 5 ∈ ALL := (ALL_at 216 (by decide +kernel) rfl)
theorem it_X2 : Cond.instantiable RX2 5 ∈ ALL := (ALL_at 69 (by decide +kernel) rfl)
theorem it_X3 : Cond.instantiable RX3 3 ∈ ALL := (ALL_at 200 (by decide +kernel) rfl)
theorem it_X4 : Cond.instantiable RX4 4 ∈ ALL := (ALL_at 132 (by decide +kernel) rfl)
theorem it_X5 : Cond.instantiable RX5 6 ∈ ALL := (ALL_at 93 (by decide +kernel) rfl)
theorem it_X6 : Cond.instantiable RX6 3 ∈ ALL := (ALL_at 243 (by decide +kernel) rfl)
theorem it_X7 : Cond.instantiable RX7 8 ∈ ALL := (ALL_at 61 (by decide +kernel) rfl)
theorem it_X8 : Cond.instantiable RX8 23 ∈ ALL := (ALL_at 543 (by decide +kernel) rfl)
theorem ac_int : Cond.arrayClass .int ∈ ALL := (ALL_at 91 (by decide +kernel) rfl)
theorem ac_long : Cond.arrayClass .long ∈ ALL := (ALL_at 154 (by decide +kernel) rfl)
theorem ac_boolean : Cond.arrayClass .boolean ∈ ALL := (ALL_at 618 (by decide +kernel) rfl)
end
section
/-! numbers: Int32 and Int64 as Int; the ground's words -/
abbrev TY (cI cJ cZ : ClassId) : List (ClassId × FieldType) := [(cI, .int), (cJ, .long), (cZ, .boolean)]
def zI (z : Int) : Int32 := Int32.ofInt z
def zL (z : Int) : Int64 := Int64.ofInt z
def bI (b : Bool) : Int32 := match b with
  | true => 1
  | false => 0
theorem bI_z {b : Bool} : bI b = 0 ↔ b = false := by cases b <;> decide
theorem bI_nz {b : Bool} : ¬ bI b = 0 ↔ b = true := by cases b <;> decide
theorem bI_o {b : Bool} : bI b = 1 ↔ b = true := by cases b <;> decide
theorem bI_no {b : Bool} : ¬ bI b = 1 ↔ b = false := by cases b <;> decide
theorem bI_nar (b : Bool) : narrow .boolean (.int (bI b)) = .int (bI b) := by cases b <;> rfl
theorem zI_bmod {z : Int} (h1 : -2147483648 ≤ z) (h2 : z < 2147483648) : z.bmod (2 ^ 32) = z := by rw [Int.bmod_eq_of_le (by omega) (by omega)]
theorem zI_toInt {z : Int} (h1 : -2147483648 ≤ z) (h2 : z < 2147483648) : (zI z).toInt = z := by
  unfold zI
  rw [Int32.toInt_ofInt]
  exact zI_bmod h1 h2
theorem zI_as (x : Int32) : zI x.toInt = x := by unfold zI; exact Int32.ofInt_toInt x
theorem zI_add (a b : Int) : zI a + zI b = zI (a + b) := (Int32.ofInt_add a b).symm
theorem zI_sub (a b : Int) : zI a - zI b = zI (a - b) := (Int32.ofInt_sub a b).symm
theorem zI_mul (a b : Int) : zI a * zI b = zI (a * b) := (Int32.ofInt_mul a b).symm
theorem zI_neg (a : Int) : -zI a = zI (-a) := (Int32.ofInt_neg a).symm
theorem zI_nat (n : Nat) : nI n = zI n := by unfold nI zI; exact (Int32.ofInt_eq_ofNat).symm
theorem i32_rng (x : Int32) : -2147483648 ≤ x.toInt ∧ x.toInt < 2147483648 := ⟨Int32.le_toInt x, Int32.toInt_lt x⟩
theorem i64_rng (x : Int64) : -9223372036854775808 ≤ x.toInt ∧ x.toInt < 9223372036854775808 := ⟨Int64.le_toInt x, Int64.toInt_lt x⟩
theorem zI_lt {a b : Int} (h1 : -2147483648 ≤ a) (h2 : a < 2147483648) (h3 : -2147483648 ≤ b) (h4 : b < 2147483648) : zI a < zI b ↔ a < b := by rw [Int32.lt_iff_toInt_lt, zI_toInt h1 h2, zI_toInt h3 h4]
theorem zI_le {a b : Int} (h1 : -2147483648 ≤ a) (h2 : a < 2147483648) (h3 : -2147483648 ≤ b) (h4 : b < 2147483648) : zI a ≤ zI b ↔ a ≤ b := by rw [Int32.le_iff_toInt_le, zI_toInt h1 h2, zI_toInt h3 h4]
theorem zI_eq {a b : Int} (h1 : -2147483648 ≤ a) (h2 : a < 2147483648) (h3 : -2147483648 ≤ b) (h4 : b < 2147483648) : zI a = zI b ↔ a = b := by rw [← Int32.toInt_inj, zI_toInt h1 h2, zI_toInt h3 h4]
theorem zL_toInt {z : Int} (h1 : -9223372036854775808 ≤ z) (h2 : z < 9223372036854775808) : (zL z).toInt = z := by
  unfold zL
  rw [Int64.toInt_ofInt]
  show z.bmod (2 ^ 64) = z
  rw [Int.bmod_eq_of_le (by omega) (by omega)]
theorem zL_as (x : Int64) : zL x.toInt = x := by unfold zL; exact Int64.ofInt_toInt x
theorem zL_add (a b : Int) : zL a + zL b = zL (a + b) := (Int64.ofInt_add a b).symm
theorem zL_sub (a b : Int) : zL a - zL b = zL (a - b) := (Int64.ofInt_sub a b).symm
theorem zL_mul (a b : Int) : zL a * zL b = zL (a * b) := (Int64.ofInt_mul a b).symm
theorem zL_neg (a : Int) : -zL a = zL (-a) := (Int64.ofInt_neg a).symm
theorem zL_lt {a b : Int} (h1 : -9223372036854775808 ≤ a) (h2 : a < 9223372036854775808) (h3 : -9223372036854775808 ≤ b) (h4 : b < 9223372036854775808) : zL a < zL b ↔ a < b := by rw [Int64.lt_iff_toInt_lt, zL_toInt h1 h2, zL_toInt h3 h4]
theorem zL_le {a b : Int} (h1 : -9223372036854775808 ≤ a) (h2 : a < 9223372036854775808) (h3 : -9223372036854775808 ≤ b) (h4 : b < 9223372036854775808) : zL a ≤ zL b ↔ a ≤ b := by rw [Int64.le_iff_toInt_le, zL_toInt h1 h2, zL_toInt h3 h4]
theorem zL_eq {a b : Int} (h1 : -9223372036854775808 ≤ a) (h2 : a < 9223372036854775808) (h3 : -9223372036854775808 ≤ b) (h4 : b < 9223372036854775808) : zL a = zL b ↔ a = b := by rw [← Int64.toInt_inj, zL_toInt h1 h2, zL_toInt h3 h4]
theorem i2l_as (x : Int32) : x.toInt64 = zL x.toInt := by
  rw [← Int64.toInt_inj, Int32.toInt_toInt64, zL_toInt (by have := i32_rng x; omega) (by have := i32_rng x; omega)]
theorem zI_i2l {z : Int} (h1 : -2147483648 ≤ z) (h2 : z < 2147483648) : (zI z).toInt64 = zL z := by rw [i2l_as, zI_toInt h1 h2]
def inR (v a b : Int32) : Bool := decide (a ≤ v) && decide (v ≤ b)
theorem inR_t {v a b : Int32} (h1 : ¬ v < a) (h2 : ¬ b < v) : bI (inR v a b) = 1 := by
  rw [bI_o, inR, decide_eq_true (i32_nlt.mp h1), decide_eq_true (i32_nlt.mp h2)]; rfl
theorem inR_f1 {v a b : Int32} (h1 : v < a) : bI (inR v a b) = 0 := by
  rw [bI_z, inR, decide_eq_false (fun h => i32_nlt.mpr h h1)]; rfl
theorem inR_f2 {v a b : Int32} (h1 : b < v) : bI (inR v a b) = 0 := by
  rw [bI_z, inR, decide_eq_false (p := v ≤ b) (fun h => i32_nlt.mpr h h1), Bool.and_false]
theorem inR_iff {v a b : Int32} : inR v a b = true ↔ a.toInt ≤ v.toInt ∧ v.toInt ≤ b.toInt := by
  unfold inR
  rw [Bool.and_eq_true, decide_eq_true_eq, decide_eq_true_eq, Int32.le_iff_toInt_le, Int32.le_iff_toInt_le]
theorem inR_no {v a b : Int32} : inR v a b = false ↔ ¬ (a.toInt ≤ v.toInt ∧ v.toInt ≤ b.toInt) := by rw [← inR_iff, Bool.not_eq_true]
/-- the ground: bottoms of the layers, the layer of a unit, the side of a unit, pull, tip -/
def gB (th : Nat → Int32) : Nat → Int
  | 0 => 0
  | k + 1 => gB th k + (th k).toInt
def gLf (th : Nat → Int32) (u : Int) : Nat → Nat → Nat
  | 0, k => k
  | d + 1, k => if u < gB th (k + 1) then k else gLf th u d (k + 1)
def gL (th : Nat → Int32) (n : Nat) (u : Int) : Nat := min (gLf th u n 0) (n - 1)
def gLI (th : Nat → Int32) (n : Nat) (u : Int) : Int := if n = 0 then -1 else gL th n u
def gSD (th sd : Nat → Int32) (n : Nat) (sc : Int32) (u : Nat) : Int := if n = 0 ∨ (u : Int) < sc.toInt then 0 else (sd (gL th n u)).toInt
def gTI (th tp : Nat → Int32) (n : Nat) (u : Nat) : Int := if n = 0 then 0 else (tp (gL th n u)).toInt
def gPU (th sd : Nat → Int32) (n : Nat) (sc : Int32) : Nat → Int
  | 0 => 0
  | k + 1 => gPU th sd n sc k + gSD th sd n sc k
def gBE (th sd tp : Nat → Int32) (n : Nat) (sc : Int32) (u : Nat) : Int := gPU th sd n sc u + gTI th tp n u
def GOK (th sd tp : Nat → Int32) (n : Nat) (sc : Int32) : Prop := n ≤ 6 ∧ (∀ i, i < n → 1 ≤ (th i).toInt ∧ (th i).toInt ≤ 50) ∧ (∀ i, i < n → 0 ≤ (sd i).toInt ∧ (sd i).toInt ≤ 50) ∧ (∀ i, i < n → 0 ≤ (tp i).toInt ∧ (tp i).toInt ≤ 1000) ∧ 0 ≤ sc.toInt ∧ sc.toInt ≤ 20
theorem gB_rng {th : Nat → Int32} {n : Nat} (h : ∀ i, i < n → 1 ≤ (th i).toInt ∧ (th i).toInt ≤ 50) : ∀ k, k ≤ n → (k : Int) ≤ gB th k ∧ gB th k ≤ 50 * k
  | 0, _ => by simp [gB]
  | k + 1, hk => by
    have h1 := gB_rng h k (by omega)
    have h2 := h k (by omega)
    simp only [gB]
    omega
theorem gB_step {th : Nat → Int32} {k : Nat} : zI (gB th k) + th k = zI (gB th (k + 1)) := by
  rw [← zI_as (th k), zI_add]
  simp only [gB, zI_as]
theorem gLf_rng {th : Nat → Int32} {u : Int} : ∀ d k, k ≤ gLf th u d k ∧ gLf th u d k ≤ k + d
  | 0, k => by simp [gLf]
  | d + 1, k => by
    have h := gLf_rng (th := th) (u := u) d (k + 1)
    simp only [gLf]
    split <;> omega
theorem gL_lt {th : Nat → Int32} {n : Nat} {u : Int} (h : 0 < n) : gL th n u < n := by unfold gL; omega
theorem gL_at {th : Nat → Int32} {n k : Nat} {u : Int} (hk : k < n) (h : gLf th u n 0 = k) : zI (gLI th n u) = nI k := by
  unfold gLI gL
  rw [if_neg (by omega), h, zI_nat, Nat.min_eq_left (by omega)]
theorem gL_out {th : Nat → Int32} {n : Nat} {u : Int} (h : gLf th u n 0 = n) : nI n - 1 = zI (gLI th n u) := by
  unfold gLI gL
  rw [h, zI_nat, show (1 : Int32) = zI 1 from rfl, zI_sub]
  by_cases hn : n = 0
  · subst hn; rfl
  · rw [if_neg hn]
    congr 1
    omega
theorem gSD_rng {th sd tp : Nat → Int32} {n : Nat} {sc : Int32} (G : GOK th sd tp n sc) (u : Nat) : 0 ≤ gSD th sd n sc u ∧ gSD th sd n sc u ≤ 50 := by
  unfold gSD
  split
  · omega
  · rename_i h
    exact G.2.2.1 _ (gL_lt (by omega))
theorem gTI_rng {th sd tp : Nat → Int32} {n : Nat} {sc : Int32} (G : GOK th sd tp n sc) (u : Nat) : 0 ≤ gTI th tp n u ∧ gTI th tp n u ≤ 1000 := by
  unfold gTI
  split
  · omega
  · rename_i h
    exact G.2.2.2.1 _ (gL_lt (by omega))
theorem gPU_rng {th sd tp : Nat → Int32} {n : Nat} {sc : Int32} (G : GOK th sd tp n sc) : ∀ u, 0 ≤ gPU th sd n sc u ∧ gPU th sd n sc u ≤ 50 * u
  | 0 => by simp [gPU]
  | u + 1 => by
    have h1 := gPU_rng G u
    have h2 := gSD_rng G u
    simp only [gPU]
    omega
theorem gLI_neg {th : Nat → Int32} {n : Nat} {u : Int} (hn : n ≤ 6) : zI (gLI th n u) < 0 ↔ n = 0 := by
  unfold gLI
  by_cases h : n = 0
  · rw [if_pos h]
    exact ⟨fun _ => h, fun _ => by decide⟩
  · have h1 : gL th n u < n := gL_lt (by omega)
    rw [if_neg h, show (0 : Int32) = zI 0 from rfl, zI_lt (by omega) (by omega) (by omega) (by omega)]
    exact ⟨fun z => by omega, fun z => absurd z h⟩
theorem gLI_pos {th : Nat → Int32} {n : Nat} {u : Int} (h : n ≠ 0) : zI (gLI th n u) = nI (gL th n u) := by
  unfold gLI
  rw [if_neg h, zI_nat]
theorem gSD_0 {th sd : Nat → Int32} {n u : Nat} {sc : Int32} (h : n = 0) : (0 : Int32) = zI (gSD th sd n sc u) := by
  unfold gSD; rw [if_pos (Or.inl h)]; rfl
theorem gSD_s {th sd : Nat → Int32} {n u : Nat} {sc : Int32} (hu : u ≤ 1000) (h : ¬ sc ≤ nI u) : (0 : Int32) = zI (gSD th sd n sc u) := by
  unfold gSD
  rw [Int32.le_iff_toInt_le, nI_toInt (by omega)] at h
  rw [if_pos (Or.inr (by omega))]; rfl
theorem gSD_n {th sd : Nat → Int32} {n u : Nat} {sc : Int32} (hu : u ≤ 1000) (hn : n ≠ 0) (h : sc ≤ nI u) : sd (gL th n u) = zI (gSD th sd n sc u) := by
  unfold gSD
  rw [Int32.le_iff_toInt_le, nI_toInt (by omega)] at h
  rw [if_neg (by omega), zI_as]
theorem gTI_0 {th tp : Nat → Int32} {n u : Nat} (h : n = 0) : (0 : Int32) = zI (gTI th tp n u) := by
  unfold gTI; rw [if_pos h]; rfl
theorem gTI_n {th tp : Nat → Int32} {n u : Nat} (hn : n ≠ 0) : tp (gL th n u) = zI (gTI th tp n u) := by
  unfold gTI; rw [if_neg hn, zI_as]
/-- pull by layers -/
def cZ_ (th : Nat → Int32) (n : Nat) (sc : Int32) (len : Int) (i : Nat) : Int :=
  max 0 ((if i + 1 = n then len else min len (gB th (i + 1))) - max (gB th i) sc.toInt)
def cPU (th sd : Nat → Int32) (n : Nat) (sc : Int32) (len : Int) : Nat → Int
  | 0 => 0
  | k + 1 => cPU th sd n sc len k + cZ_ th n sc len k * (sd k).toInt
theorem gLf_is {th : Nat → Int32} {n : Nat} {u : Int} (h : ∀ i, i < n → 1 ≤ (th i).toInt ∧ (th i).toInt ≤ 50) : ∀ d k, k + d = n → (∀ j, j < k → gB th (j + 1) ≤ u) → ∀ i, i < n → (gLf th u d k = i ↔ (gB th i ≤ u ∧ u < gB th (i + 1)) ∨ (i < k ∧ False) ∨ (i = k ∧ u < gB th (i + 1) ∧ k = 0)) := by
  intro d
  induction d with
  | zero =>
    intro k hk hj i hi
    simp only [gLf]
    have := hj i (by omega)
    refine ⟨fun e => by omega, fun e => ?_⟩
    rcases e with e | ⟨_, e⟩ | ⟨e, _⟩
    · omega
    · exact e.elim
    · omega
  | succ d ih =>
    intro k hk hj i hi
    simp only [gLf]
    have hmono : ∀ j, j < k → gB th (j + 1) ≤ u := hj
    by_cases hu : u < gB th (k + 1)
    · rw [if_pos hu]
      by_cases hik : i = k
      · subst hik
        refine ⟨fun _ => ?_, fun _ => rfl⟩
        by_cases h0 : i = 0
        · exact Or.inr (Or.inr ⟨rfl, hu, h0⟩)
        · have := hj (i - 1) (by omega)
          rw [show i - 1 + 1 = i by omega] at this
          exact Or.inl ⟨this, hu⟩
      · refine ⟨fun e => absurd e.symm hik, fun e => ?_⟩
        rcases e with ⟨e1, e2⟩ | ⟨_, e⟩ | ⟨e, _⟩
        · rcases Nat.lt_or_gt_of_ne hik with q | q
          · have := hj i q
            omega
          · have hm : ∀ j, k + 1 + j ≤ n → gB th (k + 1) ≤ gB th (k + 1 + j) := by
              intro j
              induction j with
              | zero => intro _; exact Int.le_refl _
              | succ j ihj =>
                intro hjn
                have a1 := ihj (by omega)
                have a2 := h (k + 1 + j) (by omega)
                rw [show k + 1 + (j + 1) = (k + 1 + j) + 1 by omega]
                simp only [gB] at *
                omega
            have := hm (i - (k + 1)) (by omega)
            rw [show k + 1 + (i - (k + 1)) = i by omega] at this
            omega
        · exact e.elim
        · exact absurd e hik
    · rw [if_neg hu]
      have := ih (k + 1) (by omega) (fun j hj2 => by
        rcases Nat.lt_or_ge j k with q | q
        · exact hj j q
        · rw [show j = k by omega]; omega) i hi
      rw [this]
      refine ⟨fun e => ?_, fun e => ?_⟩
      · rcases e with e | ⟨_, e⟩ | ⟨_, _, e⟩
        · exact Or.inl e
        · exact e.elim
        · omega
      · rcases e with e | ⟨_, e⟩ | ⟨e1, e2, e3⟩
        · exact Or.inl e
        · exact e.elim
        · subst e1
          exact absurd e2 hu
theorem gB_nn {th : Nat → Int32} {n : Nat} (h : ∀ i, i < n → 1 ≤ (th i).toInt ∧ (th i).toInt ≤ 50) {k : Nat} (hk : k ≤ n) : 0 ≤ gB th k := by
  have := (gB_rng h k hk).1
  omega
/-- the layer of a unit is the one in which it lies, the last one without end -/
theorem gL_is {th : Nat → Int32} {n : Nat} {u : Int} (h : ∀ i, i < n → 1 ≤ (th i).toInt ∧ (th i).toInt ≤ 50) (hu : 0 ≤ u) {i : Nat} (hi : i < n) : gL th n u = i ↔ gB th i ≤ u ∧ (i + 1 = n ∨ u < gB th (i + 1)) := by
  have hr := gLf_rng (th := th) (u := u) n 0
  have hall := gLf_is (u := u) h n 0 (by omega) (fun j hj => absurd hj (Nat.not_lt_zero _))
  have hnone : gLf th u n 0 = n → gB th n ≤ u := by
    intro e
    rcases Nat.eq_zero_or_pos n with q | q
    · omega
    · refine Int.not_lt.mp fun hlt => ?_
      have hx : ∀ m, m ≤ n → u < gB th m → ∃ j, j < m ∧ gB th j ≤ u ∧ u < gB th (j + 1) := by
        intro m
        induction m with
        | zero => intro _ hm; simp [gB] at hm; omega
        | succ m ihm =>
          intro hm1 hm2
          by_cases hc : u < gB th m
          · obtain ⟨j, h1, h2⟩ := ihm (by omega) hc
            exact ⟨j, by omega, h2⟩
          · exact ⟨m, by omega, by omega, hm2⟩
      obtain ⟨j, h1, h2⟩ := hx n (by omega) hlt
      have := (hall j h1).mpr (Or.inl h2)
      omega
  have hsome : ∀ j, gLf th u n 0 = j → j < n → gB th j ≤ u ∧ u < gB th (j + 1) := by
    intro j e hj
    rcases (hall j hj).mp e with q | ⟨_, q⟩ | ⟨q1, q2, _⟩
    · exact q
    · exact q.elim
    · subst q1
      exact ⟨by simp [gB]; exact hu, q2⟩
  unfold gL
  constructor
  · intro e
    by_cases hn : gLf th u n 0 = n
    · have h1 := hnone hn
      have h2 := h i hi
      have : i + 1 = n := by omega
      subst this
      simp only [gB] at h1
      exact ⟨by omega, Or.inl rfl⟩
    · have h1 := hsome i (by omega) hi
      exact ⟨h1.1, Or.inr h1.2⟩
  · intro ⟨e1, e2⟩
    by_cases hn : gLf th u n 0 = n
    · have h1 := hnone hn
      rcases e2 with e2 | e2
      · omega
      · exfalso
        have hm : ∀ j, i + 1 + j ≤ n → gB th (i + 1) ≤ gB th (i + 1 + j) := by
          intro j
          induction j with
          | zero => intro _; exact Int.le_refl _
          | succ j ihj =>
            intro hjn
            have a1 := ihj (by omega)
            have a2 := h (i + 1 + j) (by omega)
            rw [show i + 1 + (j + 1) = (i + 1 + j) + 1 by omega]
            simp only [gB] at *
            omega
        have := hm (n - (i + 1)) (by omega)
        rw [show i + 1 + (n - (i + 1)) = n by omega] at this
        omega
    · have h0 := hsome (gLf th u n 0) rfl (by omega)
      rcases e2 with e2 | e2
      · by_cases hq : gLf th u n 0 = i
        · omega
        · exfalso
          have hlt : gLf th u n 0 < i := by omega
          have hm : ∀ j, gLf th u n 0 + 1 + j ≤ n → gB th (gLf th u n 0 + 1) ≤ gB th (gLf th u n 0 + 1 + j) := by
            intro j
            induction j with
            | zero => intro _; exact Int.le_refl _
            | succ j ihj =>
              intro hjn
              have a1 := ihj (by omega)
              have a2 := h (gLf th u n 0 + 1 + j) (by omega)
              rw [show gLf th u n 0 + 1 + (j + 1) = (gLf th u n 0 + 1 + j) + 1 by omega]
              simp only [gB] at *
              omega
          have := hm (i - (gLf th u n 0 + 1)) (by omega)
          rw [show gLf th u n 0 + 1 + (i - (gLf th u n 0 + 1)) = i by omega] at this
          omega
      · have := (hall i hi).mpr (Or.inl ⟨e1, e2⟩)
        omega
theorem cZ_step {th : Nat → Int32} {n : Nat} {sc : Int32} {i u : Nat} (h : ∀ i, i < n → 1 ≤ (th i).toInt ∧ (th i).toInt ≤ 50) (hs : 0 ≤ sc.toInt) (hi : i < n) : cZ_ th n sc ((u + 1 : Nat) : Int) i = cZ_ th n sc (u : Int) i + (if gL th n u = i ∧ ¬ (u : Int) < sc.toInt then 1 else 0) := by
  have h1 := gB_nn h (k := i) (by omega)
  have h2 := h i hi
  have h3 : gB th (i + 1) = gB th i + (th i).toInt := rfl
  have h4 := gL_is (u := (u : Int)) h (by omega) hi
  unfold cZ_
  by_cases hc : gL th n u = i ∧ ¬ (u : Int) < sc.toInt
  · rw [if_pos hc]
    have h5 := h4.mp hc.1
    split <;> omega
  · rw [if_neg hc]
    have h5 : ¬ (gB th i ≤ u ∧ (i + 1 = n ∨ u < gB th (i + 1)) ∧ sc.toInt ≤ u) := fun z => hc ⟨h4.mpr ⟨z.1, z.2.1⟩, by omega⟩
    split <;> omega
theorem cPU_step {th sd : Nat → Int32} {n : Nat} {sc : Int32} {u : Nat} (h : ∀ i, i < n → 1 ≤ (th i).toInt ∧ (th i).toInt ≤ 50) (hs : 0 ≤ sc.toInt) : ∀ k, k ≤ n → cPU th sd n sc ((u + 1 : Nat) : Int) k = cPU th sd n sc (u : Int) k + (if gL th n u < k ∧ ¬ (u : Int) < sc.toInt then (sd (gL th n u)).toInt else 0)
  | 0, _ => by simp [cPU]
  | k + 1, hk => by
    have ih := cPU_step (sd := sd) (u := u) h hs k (by omega)
    have h1 := cZ_step (u := u) (sc := sc) h hs (i := k) (by omega)
    simp only [cPU]
    rw [ih, h1]
    by_cases hc : gL th n u = k
    · by_cases hs2 : (u : Int) < sc.toInt
      · rw [if_neg (by omega), if_neg (by omega), if_neg (by omega)]
        simp
      · rw [if_neg (by omega), if_pos ⟨hc, hs2⟩, if_pos ⟨by omega, hs2⟩, hc, Int.add_mul]
        omega
    · rw [if_neg (c := gL th n u = k ∧ _) (fun z => hc z.1)]
      by_cases hlt : gL th n u < k ∧ ¬ (u : Int) < sc.toInt
      · rw [if_pos hlt, if_pos ⟨by omega, hlt.2⟩]
        simp [Int.add_right_comm]
      · rw [if_neg hlt, if_neg (fun z => hlt ⟨by omega, z.2⟩)]
        simp
theorem cPU_is {th sd : Nat → Int32} {n : Nat} {sc : Int32} (h : ∀ i, i < n → 1 ≤ (th i).toInt ∧ (th i).toInt ≤ 50) (hs : 0 ≤ sc.toInt) : ∀ len : Nat, cPU th sd n sc (len : Int) n = gPU th sd n sc len
  | 0 => by
    have : ∀ k, k ≤ n → cPU th sd n sc ((0 : Nat) : Int) k = 0 := by
      intro k
      induction k with
      | zero => intro _; rfl
      | succ k ih =>
        intro hk
        have h1 := gB_nn h (k := k) (by omega)
        have h2 := h k (by omega)
        have h3 : gB th (k + 1) = gB th k + (th k).toInt := rfl
        simp only [cPU, ih (by omega)]
        have : cZ_ th n sc ((0 : Nat) : Int) k = 0 := by
          unfold cZ_
          split <;> omega
        rw [this]; simp
    exact this n (Nat.le_refl _)
  | u + 1 => by
    rw [cPU_step h hs n (Nat.le_refl _), cPU_is h hs u]
    simp only [gPU, gSD]
    by_cases hn : n = 0
    · subst hn
      simp
    · have := gL_lt (th := th) (n := n) (u := u) (by omega)
      by_cases hs2 : (u : Int) < sc.toInt
      · rw [if_neg (by omega), if_pos (Or.inr hs2)]
      · rw [if_pos ⟨this, hs2⟩, if_neg (by omega)]
theorem pu_bt1 {n k u : Nat} {x : Int} (h : k + 1 = n) : nI u = zI (if k + 1 = n then (u : Int) else x) := by rw [if_pos h, zI_nat]
theorem pu_bt2 {th : Nat → Int32} {n k u : Nat} (h : ¬ k + 1 = n) (hu : u ≤ 1000) (h1 : 0 ≤ gB th (k + 1)) (h2 : gB th (k + 1) ≤ 1000) : (if zI (gB th k) + th k < nI u then zI (gB th k) + th k else nI u) = zI (if k + 1 = n then (u : Int) else min u (gB th (k + 1))) := by
  rw [gB_step, if_neg h, zI_nat]
  by_cases q : gB th (k + 1) < u
  · rw [if_pos ((zI_lt (by omega) (by omega) (by omega) (by omega)).mpr q), Int.min_eq_right (by omega)]
  · rw [if_neg (fun z => q ((zI_lt (by omega) (by omega) (by omega) (by omega)).mp z)), Int.min_eq_left (by omega)]
theorem pu_z {th : Nat → Int32} {n k u : Nat} {sc : Int32} (hu : u ≤ 1000) (h1 : 0 ≤ gB th k ∧ gB th k ≤ 1000) (h2 : 0 ≤ gB th (k + 1) ∧ gB th (k + 1) ≤ 1000) (h3 : 0 ≤ sc.toInt) (h4 : sc.toInt ≤ 20) :
    (if 0 < zI (if k + 1 = n then (u : Int) else min u (gB th (k + 1))) - (if zI (gB th k) < sc then sc else zI (gB th k)) then zI (if k + 1 = n then (u : Int) else min u (gB th (k + 1))) - (if zI (gB th k) < sc then sc else zI (gB th k)) else 0) = zI (cZ_ th n sc u k) := by
  have e1 : (if zI (gB th k) < sc then sc else zI (gB th k)) = zI (max (gB th k) sc.toInt) := by
    rw [← zI_as sc]
    by_cases q : gB th k < sc.toInt
    · rw [if_pos ((zI_lt (by omega) (by omega) (by omega) (by omega)).mpr q), Int.max_eq_right (by rw [zI_as]; omega), zI_as, zI_as]
    · rw [if_neg (fun z => q ((zI_lt (by omega) (by omega) (by omega) (by omega)).mp z)), Int.max_eq_left (by rw [zI_as]; omega)]
  rw [e1, zI_sub]
  unfold cZ_
  generalize hb : (if k + 1 = n then (u : Int) else min u (gB th (k + 1))) = b
  have hb1 : 0 ≤ b ∧ b ≤ 1000 := by
    rw [← hb]
    split <;> omega
  have hm : max (gB th k) sc.toInt ≤ 1000 ∧ 0 ≤ max (gB th k) sc.toInt := by omega
  generalize max (gB th k) sc.toInt = mx at hm ⊢
  by_cases q : 0 < b - mx
  · rw [if_pos (by rw [show (0 : Int32) = zI 0 from rfl, zI_lt (by omega) (by omega) (by omega) (by omega)]; exact q), Int.max_eq_right (by omega)]
  · rw [if_neg (by rw [show (0 : Int32) = zI 0 from rfl, zI_lt (by omega) (by omega) (by omega) (by omega)]; exact q), Int.max_eq_left (by omega)]; rfl
theorem pu_step {th sd : Nat → Int32} {n k u : Nat} {sc : Int32} : zI (cPU th sd n sc u k) + zI (cZ_ th n sc u k) * sd k = zI (cPU th sd n sc u (k + 1)) := by
  rw [← zI_as (sd k), zI_mul, zI_add]
  simp only [cPU, zI_as]
end
section
/-! places in a range, masks, updates, the common divisor -/
def hasB (p : Int32) (n : Nat) : Bool := decide (0 ≤ p.toInt) && decide (p.toInt < n)
theorem hasB_t {p : Int32} {n : Nat} (hn : n < 1000) (h1 : ¬ p < 0) (h2 : ¬ nI n ≤ p) : bI (hasB p n) = 1 := by
  rw [Int32.lt_iff_toInt_lt, Int32.toInt_zero] at h1
  rw [Int32.le_iff_toInt_le, nI_toInt (by omega)] at h2
  rw [bI_o, hasB, decide_eq_true (by omega), decide_eq_true (by omega)]; rfl
theorem hasB_f1 {p : Int32} {n : Nat} (h1 : p < 0) : bI (hasB p n) = 0 := by
  rw [Int32.lt_iff_toInt_lt, Int32.toInt_zero] at h1
  rw [bI_z, hasB, decide_eq_false (by omega)]; rfl
theorem hasB_f2 {p : Int32} {n : Nat} (hn : n < 1000) (h2 : nI n ≤ p) : bI (hasB p n) = 0 := by
  rw [Int32.le_iff_toInt_le, nI_toInt (by omega)] at h2
  rw [bI_z, hasB, decide_eq_false (p := p.toInt < n) (by omega), Bool.and_false]
theorem hasB_iff {p : Int32} {n : Nat} : hasB p n = true ↔ 0 ≤ p.toInt ∧ p.toInt < n := by
  unfold hasB; rw [Bool.and_eq_true, decide_eq_true_eq, decide_eq_true_eq]
theorem hasB_ex {p : Int32} {n : Nat} (h : hasB p n = true) : ∃ k : Nat, k < n ∧ p = nI k := by
  have h1 := hasB_iff.mp h
  exact ⟨p.toInt.toNat, by omega, by rw [zI_nat, Int.toNat_of_nonneg h1.1, zI_as]⟩
theorem hasB_nI {k n : Nat} (hk : k < n) (hn : n < 1000) : hasB (nI k) n = true := by
  rw [hasB_iff, nI_toInt (by omega)]; omega
def updN (f : Nat → Nat) (k v : Nat) : Nat → Nat := fun j => if j = k then v else f j
theorem upd_nI {f : Nat → Nat} {k v : Nat} : upd (fun i => nI (f i)) k (nI v) = fun i => nI (updN f k v i) := by
  funext j
  by_cases h : j = k
  · subst h; simp [upd, updN]
  · simp [upd, updN, h]
def nsum (f : Nat → Nat) : Nat → Nat
  | 0 => 0
  | k + 1 => nsum f k + f k
/-- masks -/
theorem nI_bv (n : Nat) : (nI n).toBitVec = BitVec.ofNat 32 n := rfl
theorem nI_and (a b : Nat) : nI a &&& nI b = nI (a &&& b) := by
  apply Int32.toBitVec_inj.mp
  rw [Int32.toBitVec_and, nI_bv, nI_bv, nI_bv]
  apply BitVec.eq_of_getLsbD_eq
  intro i hi
  simp [BitVec.getLsbD_and, BitVec.getLsbD_ofNat, Nat.testBit_and, hi]
theorem nI_or (a b : Nat) : nI a ||| nI b = nI (a ||| b) := by
  apply Int32.toBitVec_inj.mp
  rw [Int32.toBitVec_or, nI_bv, nI_bv, nI_bv]
  apply BitVec.eq_of_getLsbD_eq
  intro i hi
  simp [BitVec.getLsbD_or, BitVec.getLsbD_ofNat, Nat.testBit_or, hi]
theorem nI_xor (a b : Nat) : nI a ^^^ nI b = nI (a ^^^ b) := by
  apply Int32.toBitVec_inj.mp
  rw [Int32.toBitVec_xor, nI_bv, nI_bv, nI_bv]
  apply BitVec.eq_of_getLsbD_eq
  intro i hi
  simp [BitVec.getLsbD_xor, BitVec.getLsbD_ofNat, Nat.testBit_xor, hi]
theorem sh_am : ∀ n, n < 32 → ((nI n &&& 31).toBitVec.smod 32).toNat = n := by decide
theorem sh_1 : ∀ n, n < 12 → (1 : Int32) <<< (nI n &&& 31) = nI (2 ^ n) := by decide
theorem sh_bit {M k : Nat} (hM : M < 4096) (hk : k < 32) : ((nI M >>> (nI k &&& 31)) &&& 1) = bI (M.testBit k) := by
  rw [pk_shrN (by omega) _ k (sh_am k hk)]
  have h1 : M / 2 ^ k ≤ M := Nat.div_le_self _ _
  rw [pk_andN (by omega) 1 (by decide), Nat.testBit_eq_decide_div_mod_eq]
  rcases Nat.mod_two_eq_zero_or_one (M / 2 ^ k) with q | q
  · rw [Nat.pow_one, q]; rfl
  · rw [Nat.pow_one, q]; rfl
def mclr (M k : Nat) : Nat := M ^^^ (M &&& 2 ^ k)
def mset (M k : Nat) (b : Bool) : Nat := if b then M ||| 2 ^ k else mclr M k
theorem mclr_bit (M k i : Nat) : (mclr M k).testBit i = (M.testBit i && !decide (k = i)) := by
  unfold mclr
  rw [Nat.testBit_xor, Nat.testBit_and, Nat.testBit_two_pow]
  cases M.testBit i <;> cases decide (k = i) <;> rfl
theorem mset_bit (M k i : Nat) (b : Bool) : (mset M k b).testBit i = if k = i then b else M.testBit i := by
  unfold mset
  cases b
  · rw [if_neg (by simp), mclr_bit]
    by_cases h : k = i <;> simp [h]
  · rw [if_pos rfl, Nat.testBit_or, Nat.testBit_two_pow]
    by_cases h : k = i <;> simp [h]
theorem lt_pow_bits {x n : Nat} (h : ∀ i, n ≤ i → x.testBit i = false) : x < 2 ^ n := Nat.lt_pow_two_of_testBit x h
theorem mset_lt {M k n : Nat} {b : Bool} (hM : M < 2 ^ n) (hk : k < n) : mset M k b < 2 ^ n := by
  apply lt_pow_bits
  intro i hi
  rw [mset_bit, if_neg (by omega)]
  exact Nat.testBit_lt_two_pow (Nat.lt_of_lt_of_le hM (Nat.pow_le_pow_right (by omega) hi))
theorem ms_or {M k : Nat} (hk : k < 12) : nI M ||| ((1 : Int32) <<< (nI k &&& 31)) = nI (mset M k true) := by
  rw [sh_1 k hk, nI_or]; rfl
theorem ms_clr {M k : Nat} (hM : M < 4096) (hk : k < 12) : nI M &&& (((1 : Int32) <<< (nI k &&& 31)) ^^^ (-1)) = nI (mset M k false) := by
  rw [sh_1 k hk, show (-1 : Int32) = nI (2 ^ 32 - 1) from rfl, nI_xor, nI_and]
  congr 1
  show _ = mclr M k
  apply Nat.eq_of_testBit_eq
  intro i
  rw [mclr_bit, Nat.testBit_and, Nat.testBit_xor, Nat.testBit_two_pow, Nat.testBit_two_pow_sub_one]
  by_cases hi : i < 32
  · simp only [hi, decide_true]
    cases M.testBit i <;> cases decide (k = i) <;> rfl
  · rw [Nat.testBit_lt_two_pow (Nat.lt_of_lt_of_le hM (by
      have : 2 ^ 12 ≤ 2 ^ i := Nat.pow_le_pow_right (by omega) (by omega)
      omega))]
    simp
/-- the common divisor -/
def dG (a b : Int64) : Int64 := lN (Nat.gcd a.toInt.natAbs b.toInt.natAbs)
theorem lN_toI {n : Nat} (h : n < 2 ^ 63) : (lN n).toInt = (n : Int) := pk_lT h
theorem abs_lN {a : Int64} (ha : -9223372036854775808 < a.toInt) : (if 0 < a then a else -a) = lN a.toInt.natAbs := by
  have h := i64_rng a
  rw [← Int64.toInt_inj, lN_toI (by omega)]
  by_cases q : 0 < a
  · rw [if_pos q]
    rw [Int64.lt_iff_toInt_lt, Int64.toInt_zero] at q
    omega
  · rw [if_neg q]
    rw [Int64.lt_iff_toInt_lt, Int64.toInt_zero] at q
    rw [← zL_as a, zL_neg, zL_toInt (by omega) (by omega), zL_as]
    omega
theorem pos_lN {b : Int64} (hb : 0 ≤ b.toInt) : b = lN b.toInt.natAbs := by
  have h := i64_rng b
  rw [← Int64.toInt_inj, lN_toI (by omega)]
  omega
theorem dG_pos {a b : Int64} (hb : 0 < b.toInt) : ¬ dG a b = 0 ∧ 1 ≤ dG a b := by
  have h := i64_rng b
  have h1 : 0 < Nat.gcd a.toInt.natAbs b.toInt.natAbs := Nat.gcd_pos_of_pos_right _ (by omega)
  have h2 : Nat.gcd a.toInt.natAbs b.toInt.natAbs ≤ b.toInt.natAbs := Nat.gcd_le_right _ (by omega)
  unfold dG
  rw [← Int64.toInt_inj, Int64.le_iff_toInt_le, lN_toI (by omega), Int64.toInt_zero, show (1 : Int64).toInt = 1 from rfl]
  omega
/-- Euclid's way: the product of the two halves at each step but the first -/
def EI (i x y : Nat) : Prop := x < 2 ^ 63 ∧ y < 2 ^ 63 ∧ (i = 0 ∨ (y < x ∧ x * y * 2 ^ i < 2 ^ 128))
theorem EI_step {i x y : Nat} (h : EI i x y) (hy : y ≠ 0) : EI (i + 1) y (x % y) := by
  obtain ⟨h1, h2, h3⟩ := h
  have hr : x % y < y := Nat.mod_lt _ (by omega)
  refine ⟨h2, by omega, Or.inr ⟨hr, ?_⟩⟩
  rcases h3 with rfl | ⟨h3, h4⟩
  · have a1 : y * (x % y) ≤ 2 ^ 63 * 2 ^ 63 := Nat.mul_le_mul (by omega) (by omega)
    omega
  · have hq : 1 ≤ x / y := Nat.div_pos (by omega) (by omega)
    have e := Nat.div_add_mod x y
    have a0 : y * 1 ≤ y * (x / y) := Nat.mul_le_mul_left _ hq
    have a1 : 2 * (x % y) ≤ x := by omega
    have a2 : y * (x % y) * 2 ≤ x * y := by
      calc y * (x % y) * 2 = y * (2 * (x % y)) := by rw [Nat.mul_assoc, Nat.mul_comm (x % y) 2]
        _ ≤ y * x := Nat.mul_le_mul_left _ a1
        _ = x * y := Nat.mul_comm _ _
    calc y * (x % y) * 2 ^ (i + 1) = y * (x % y) * 2 * 2 ^ i := by rw [Nat.pow_succ, Nat.mul_comm (2 ^ i) 2, Nat.mul_assoc, Nat.mul_assoc, Nat.mul_assoc]
      _ ≤ x * y * 2 ^ i := Nat.mul_le_mul_right _ a2
      _ < 2 ^ 128 := h4
theorem EI_end {i x y : Nat} (h : EI i x y) (hi : 200 ≤ i) : y = 0 := by
  obtain ⟨h1, h2, h3⟩ := h
  rcases h3 with rfl | ⟨h3, h4⟩
  · omega
  · rcases Nat.eq_zero_or_pos y with q | q
    · exact q
    · exfalso
      have a1 : 1 * 1 ≤ x * y := Nat.mul_le_mul (by omega) q
      have a2 : 2 ^ 200 ≤ 2 ^ i := Nat.pow_le_pow_right (by omega) hi
      have a3 : 1 * 2 ^ 200 ≤ x * y * 2 ^ i := Nat.mul_le_mul a1 a2
      have : (2 : Nat) ^ 128 < 2 ^ 200 := by decide
      omega
end
section
section V2
variable {p : Program} {l : Launch} {e : Env} {R : Room} {s : State} {m : MethodId} {args : Array Value} {below : List Frame} {meth : Method} {c : Code} {D : va_G} {A : Nat → Prop} {nL cells slots : Nat} {Q : State → Prop}
variable {cc : ByteArray} {own : String} {tys : List (ClassId × FieldType)} {fr lo : Nat} {pc q n : Nat} {lv lv' : List (Nat × Value)} {st rest : List Value} {ws ws' : va_W}
theorem v_callSN (F : Fx p s m args c cc own D tys A nL fr lo R) {y : MethodName} {cc' : ByteArray} {maxL fr' lo' mc ms np : Nat} {ret : Option FieldType} {av : List Value} {w0 : va_W} {Q' : Option Value → va_W → Prop} {index : Nat} {host : String} (k1 : Cond.methodLinkNest own index y host ∈ lw_tbl) (k2 : Cond.static y ∈ ALL) (k4 : Cond.initialized y.cls ∈ ALL) (k5 : Cond.code y cc' maxL ret ∈ ALL) (hy : y.cls ≠ "java/lang/invoke/MethodHandle" ∧ y.cls ≠ "java/lang/invoke/VarHandle" ∧ (parseMethodDescriptor y.desc).map (fun d => d.parameters.length) = some np) (hM : Ct l D tys y cc' maxL ret fr' lo' mc ms av w0 Q') (hcs : cells + mc ≤ R.cells ∧ slots + ms ≤ R.slots) (hfr : fr' + 1 ≤ fr) (hlo : 8 + (maxL + 11) + lo' ≤ lo) (hnp : av.length = np) (isC : List Nat) (hC : isC.map (fun i => ws[i]?) = w0.map some) (hn : decide isC.Nodup = true) (hn2 : va_nd isC = true) (hst : st = av.reverse ++ rest) (hW : (rest.map fun v => v.category).sum ≤ 8) (hd : decode cc pc = .ok (.invokestatic index, 3)) (hq : pc + 3 = q) (kk : ∀ (r : Option Value) (w1 : va_W), Q' r w1 → V p l e R s m args below meth c D A nL (cells + mc) (slots + ms) Q q lv (r.toList ++ rest) (wset ws isC w1)) : V p l e R s m args below meth c D A nL cells slots Q pc lv st ws := by
  subst hq
  intro H locs ls hP hD hS hl
  exact v_ret0 hP hD hS F.2.2.2.2.2.2.2.1 hC (nodup_of hn) (va_runSN (As := av) ⟨F.1, F.2.1, F.2.2.1, F.2.2.2.1, F.2.2.2.2.1⟩ (hM H.size) ⟨va_cnB np F.2.2.2.2.1 (good_ALL k5) rfl rfl rfl (F.2.2.2.2.2.1 _ k1 rfl) (F.2.2.2.2.1 _ k4) hy ⟨Nat.le_trans hfr F.2.2.2.2.2.2.2.2.1, Nat.le_trans hlo F.2.2.2.2.2.2.2.2.2⟩, ⟨F.2.2.2.2.1 _ k2, trivial⟩⟩ ⟨pw_blind, pw_at F.2.2.2.2.2.2.1 F.2.2.2.2.2.1 hP hD hC hn2⟩ rfl hnp hl.1 hst (lv_room hW) hd hcs) (fun r w1 hq H1 locs1 hP hD hS => kk r w1 hq H1 locs1 ls hP hD hS hl)
theorem v_objInit (F : Fx p s m args c cc own D tys A nL fr lo R) {index : Nat} {a : Nat} (k1 : Cond.methodLink own index objectInit ∈ ALL) (hd : decode cc pc = .ok (.invokespecial index, 3)) (hf : 1 ≤ fr) (hlo : (st.map fun v => v.category).sum + 12 ≤ lo) (hq : pc + 3 = q) (k : V p l e R s m args below meth c D A nL cells slots Q q lv st ws) : V p l e R s m args below meth c D A nL cells slots Q pc lv (.ref a :: st) ws := by
  subst hq
  exact fun H locs ls hP hD hS hl => W.objInit F.1 F.2.1 F.2.2.2.1 (F.2.2.2.2.1 _ k1) (F.2.2.2.2.1 _ im_obj) (F.2.2.2.2.1 _ co_obj) rfl (hl.1.trans F.2.2.1.symm) rfl hd (Nat.le_trans hf F.2.2.2.2.2.2.2.2.1) (by show 2 * 0 + _ + 12 ≤ _; have := F.2.2.2.2.2.2.2.2.2; omega) (k H locs ls hP hD hS hl)
end V2
end
section
/-! sums over a set, the cap's numbers, limits, driving -/
def updZ (f : Nat → Int) (k : Nat) (v : Int) : Nat → Int := fun j => if j = k then v else f j
theorem upd_zL {f : Nat → Int} {k : Nat} {v : Int} : vp_updL (fun i => zL (f i)) k (zL v) = fun i => zL (updZ f k v i) := by
  funext j
  by_cases h : j = k
  · subst h; simp [vp_updL, updZ]
  · simp [vp_updL, updZ, h]
def sm (B : Nat) (f : Nat → Int) : Nat → Int
  | 0 => 0
  | k + 1 => if B.testBit k then sm B f k + f k else sm B f k
theorem sm_t {B k : Nat} {f : Nat → Int} (h : B.testBit k = true) : sm B f (k + 1) = sm B f k + f k := by simp only [sm]; rw [if_pos h]
theorem sm_f {B k : Nat} {f : Nat → Int} (h : B.testBit k = false) : sm B f (k + 1) = sm B f k := by simp only [sm]; rw [if_neg (by rw [h]; simp)]
theorem sm_rng {B : Nat} {f : Nat → Int} {c : Int} (hc : 0 ≤ c) : ∀ {n : Nat}, (∀ i, i < n → -c ≤ f i ∧ f i ≤ c) → -(c * n) ≤ sm B f n ∧ sm B f n ≤ c * n
  | 0, _ => by simp [sm]
  | n + 1, h => by
    have h1 := sm_rng (B := B) hc (n := n) (fun i hi => h i (by omega))
    have h2 := h n (by omega)
    have e : c * ((n + 1 : Nat) : Int) = c * n + c := by rw [Int.natCast_add, Int.mul_add]; simp
    rw [e]
    simp only [sm]
    split <;> omega
abbrev fK (pk : Nat → Int32) : Nat → Int := fun i => (pk i).toInt
abbrev fKX (pk px : Nat → Int32) : Nat → Int := fun i => (pk i).toInt * (px i).toInt
abbrev fKXX (pk px py : Nat → Int32) : Nat → Int := fun i => (pk i).toInt * (px i).toInt * (py i).toInt
def POK (px py : Nat → Int32) (pl : Nat → Nat) (pk : Nat → Int32) (N : Nat) : Prop := N ≤ 12 ∧ (∀ i, i < N → -20 ≤ (px i).toInt ∧ (px i).toInt ≤ 20) ∧ (∀ i, i < N → -20 ≤ (py i).toInt ∧ (py i).toInt ≤ 20) ∧ (∀ i, i < N → 1 ≤ pl i ∧ pl i ≤ 100) ∧ (∀ i, i < N → 1 ≤ (pk i).toInt ∧ (pk i).toInt ≤ 20)
def kS (pk px py : Nat → Int32) (B N : Nat) : Int := sm B (fK pk) N
def kX (pk px py : Nat → Int32) (B N : Nat) : Int := sm B (fKX pk px) N
def kY (pk px py : Nat → Int32) (B N : Nat) : Int := sm B (fKX pk py) N
def kXX (pk px py : Nat → Int32) (B N : Nat) : Int := sm B (fKXX pk px px) N
def kXY (pk px py : Nat → Int32) (B N : Nat) : Int := sm B (fKXX pk px py) N
def kYY (pk px py : Nat → Int32) (B N : Nat) : Int := sm B (fKXX pk py py) N
def dWW (pk px py : Nat → Int32) (B N : Nat) : Int := kXX pk px py B N * kYY pk px py B N - kXY pk px py B N * kXY pk px py B N
def dWP (pk px py : Nat → Int32) (B N : Nat) : Int := kY pk px py B N * kXY pk px py B N - kX pk px py B N * kYY pk px py B N
def dWQ (pk px py : Nat → Int32) (B N : Nat) : Int := kX pk px py B N * kXY pk px py B N - kY pk px py B N * kXX pk px py B N
def dPP (pk px py : Nat → Int32) (B N : Nat) : Int := kS pk px py B N * kYY pk px py B N - kY pk px py B N * kY pk px py B N
def dPQ (pk px py : Nat → Int32) (B N : Nat) : Int := kX pk px py B N * kY pk px py B N - kS pk px py B N * kXY pk px py B N
def dQQ (pk px py : Nat → Int32) (B N : Nat) : Int := kS pk px py B N * kXX pk px py B N - kX pk px py B N * kX pk px py B N
def dDE (pk px py : Nat → Int32) (B N : Nat) : Int := kS pk px py B N * dWW pk px py B N + kX pk px py B N * dWP pk px py B N + kY pk px py B N * dWQ pk px py B N
theorem mul_rng {a b A B : Int} (ha : -A ≤ a ∧ a ≤ A) (hb : -B ≤ b ∧ b ≤ B) : -(A * B) ≤ a * b ∧ a * b ≤ A * B := by
  have hA : 0 ≤ A := by omega
  have hB : 0 ≤ B := by omega
  have h1 : a.natAbs ≤ A.natAbs := by omega
  have h2 : b.natAbs ≤ B.natAbs := by omega
  have h3 := Nat.mul_le_mul h1 h2
  rw [← Int.natAbs_mul, ← Int.natAbs_mul] at h3
  have h4 : 0 ≤ A * B := Int.mul_nonneg hA hB
  omega
theorem k_rng {px py : Nat → Int32} {pl : Nat → Nat} {pk : Nat → Int32} {N : Nat} (P : POK px py pl pk N) (B : Nat) : (-240 ≤ kS pk px py B N ∧ kS pk px py B N ≤ 240) ∧ (-4800 ≤ kX pk px py B N ∧ kX pk px py B N ≤ 4800) ∧ (-4800 ≤ kY pk px py B N ∧ kY pk px py B N ≤ 4800) ∧ (-96000 ≤ kXX pk px py B N ∧ kXX pk px py B N ≤ 96000) ∧ (-96000 ≤ kXY pk px py B N ∧ kXY pk px py B N ≤ 96000) ∧ (-96000 ≤ kYY pk px py B N ∧ kYY pk px py B N ≤ 96000) := by
  obtain ⟨h0, hx, hy, hl, hk⟩ := P
  have hk2 : ∀ i, i < N → -20 ≤ (pk i).toInt ∧ (pk i).toInt ≤ 20 := fun i hi => by have := hk i hi; omega
  have a1 := sm_rng (B := B) (f := fK pk) (c := 20) (by omega) (n := N) hk2
  have a2 := sm_rng (B := B) (f := fKX pk px) (c := 400) (by omega) (n := N) (fun i hi => mul_rng (hk2 i hi) (hx i hi))
  have a3 := sm_rng (B := B) (f := fKX pk py) (c := 400) (by omega) (n := N) (fun i hi => mul_rng (hk2 i hi) (hy i hi))
  have a4 := sm_rng (B := B) (f := fKXX pk px px) (c := 8000) (by omega) (n := N) (fun i hi => mul_rng (A := 400) (mul_rng (hk2 i hi) (hx i hi)) (hx i hi))
  have a5 := sm_rng (B := B) (f := fKXX pk px py) (c := 8000) (by omega) (n := N) (fun i hi => mul_rng (A := 400) (mul_rng (hk2 i hi) (hx i hi)) (hy i hi))
  have a6 := sm_rng (B := B) (f := fKXX pk py py) (c := 8000) (by omega) (n := N) (fun i hi => mul_rng (A := 400) (mul_rng (hk2 i hi) (hy i hi)) (hy i hi))
  have hN : (N : Int) ≤ 12 := by omega
  unfold kS kX kY kXX kXY kYY
  omega
theorem sub_rng {a b A B : Int} (ha : -A ≤ a ∧ a ≤ A) (hb : -B ≤ b ∧ b ≤ B) : -(A + B) ≤ a - b ∧ a - b ≤ A + B := by omega
theorem add_rng {a b A B : Int} (ha : -A ≤ a ∧ a ≤ A) (hb : -B ≤ b ∧ b ≤ B) : -(A + B) ≤ a + b ∧ a + b ≤ A + B := by omega
theorem d_rng {px py : Nat → Int32} {pl : Nat → Nat} {pk : Nat → Int32} {N : Nat} (P : POK px py pl pk N) (B : Nat) : (-18432000000 ≤ dWW pk px py B N ∧ dWW pk px py B N ≤ 18432000000) ∧ (-921600000 ≤ dWP pk px py B N ∧ dWP pk px py B N ≤ 921600000) ∧ (-921600000 ≤ dWQ pk px py B N ∧ dWQ pk px py B N ≤ 921600000) ∧ (-46080000 ≤ dPP pk px py B N ∧ dPP pk px py B N ≤ 46080000) ∧ (-46080000 ≤ dPQ pk px py B N ∧ dPQ pk px py B N ≤ 46080000) ∧ (-46080000 ≤ dQQ pk px py B N ∧ dQQ pk px py B N ≤ 46080000) ∧ (-13271040000000 ≤ dDE pk px py B N ∧ dDE pk px py B N ≤ 13271040000000) := by
  obtain ⟨h1, h2, h3, h4, h5, h6⟩ := k_rng P B
  have b1 : -18432000000 ≤ dWW pk px py B N ∧ dWW pk px py B N ≤ 18432000000 := sub_rng (mul_rng h4 h6) (mul_rng h5 h5)
  have b2 : -921600000 ≤ dWP pk px py B N ∧ dWP pk px py B N ≤ 921600000 := sub_rng (mul_rng h3 h5) (mul_rng h2 h6)
  have b3 : -921600000 ≤ dWQ pk px py B N ∧ dWQ pk px py B N ≤ 921600000 := sub_rng (mul_rng h2 h5) (mul_rng h3 h4)
  have b4 : -46080000 ≤ dPP pk px py B N ∧ dPP pk px py B N ≤ 46080000 := sub_rng (mul_rng h1 h6) (mul_rng h3 h3)
  have b5 : -46080000 ≤ dPQ pk px py B N ∧ dPQ pk px py B N ≤ 46080000 := by
    have := sub_rng (mul_rng h2 h3) (mul_rng h1 h5)
    exact this
  have b6 : -46080000 ≤ dQQ pk px py B N ∧ dQQ pk px py B N ≤ 46080000 := sub_rng (mul_rng h1 h4) (mul_rng h2 h2)
  have b7 : -13271040000000 ≤ dDE pk px py B N ∧ dDE pk px py B N ≤ 13271040000000 := add_rng (add_rng (mul_rng h1 b1) (mul_rng h2 b2)) (mul_rng h3 b3)
  exact ⟨b1, b2, b3, b4, b5, b6, b7⟩
theorem i2l_mul {x y : Int32} {A B : Int} (hx : -A ≤ x.toInt ∧ x.toInt ≤ A) (hy : -B ≤ y.toInt ∧ y.toInt ≤ B) (h : A * B < 2147483648) : (x * y).toInt64 = zL (x.toInt * y.toInt) ∧ (x * y).toInt = x.toInt * y.toInt := by
  have h1 := mul_rng hx hy
  have e : (x * y).toInt = x.toInt * y.toInt := by
    rw [← zI_as x, ← zI_as y, zI_mul, zI_toInt (by omega) (by omega), zI_as, zI_as]
  exact ⟨by rw [i2l_as, e], e⟩
theorem pk2 {px py : Nat → Int32} {pl : Nat → Nat} {pk : Nat → Int32} {N : Nat} (P : POK px py pl pk N) {k : Nat} (hk : k < N) : -20 ≤ (pk k).toInt ∧ (pk k).toInt ≤ 20 := by have := P.2.2.2.2 k hk; omega
theorem st_1 {x y : Int32} {a : Int} (hx : -20 ≤ x.toInt ∧ x.toInt ≤ 20) (hy : -20 ≤ y.toInt ∧ y.toInt ≤ 20) : zL a + (x * y).toInt64 = zL (a + x.toInt * y.toInt) := by
  rw [(i2l_mul hx hy (by omega)).1, zL_add]
theorem st_2 {x y z : Int32} {a : Int} (hx : -20 ≤ x.toInt ∧ x.toInt ≤ 20) (hy : -20 ≤ y.toInt ∧ y.toInt ≤ 20) (hz : -20 ≤ z.toInt ∧ z.toInt ≤ 20) : zL a + (x * y * z).toInt64 = zL (a + x.toInt * y.toInt * z.toInt) := by
  have h1 := i2l_mul hx hy (by omega)
  have h2 := mul_rng hx hy
  have h3 := i2l_mul (x := x * y) (y := z) (A := 400) (B := 20) (by rw [h1.2]; exact h2) hz (by omega)
  rw [h3.1, h1.2, zL_add]
theorem st_0 {x : Int32} {a : Int} : zL a + x.toInt64 = zL (a + x.toInt) := by rw [i2l_as, zL_add]
def shI (pk px py : Nat → Int32) (w p q : Int) (k : Nat) : Int := (pk k).toInt * (w + p * (px k).toInt + q * (py k).toInt)
def fil (g f : Nat → Int32) (k : Nat) : Nat → Int32 := fun i => if i < k then g i else f i
theorem fil_0 (g f : Nat → Int32) : fil g f 0 = f := by funext i; simp [fil]
theorem fil_s (g f : Nat → Int32) (k : Nat) : upd (fil g f k) k (g k) = fil g f (k + 1) := by
  funext i
  by_cases h : i = k
  · subst h; simp [upd, fil]
  · simp only [upd, fil, if_neg h]
    by_cases h2 : i < k
    · rw [if_pos h2, if_pos (by omega)]
    · rw [if_neg h2, if_neg (by omega)]
theorem fil_in {g f : Nat → Int32} {k i : Nat} (h : i < k) : fil g f k i = g i := by simp [fil, h]
def tooNear (px py : Nat → Int32) (sp : Int32) (i j : Nat) : Bool := decide (i ≠ j) && decide (((px i).toInt - (px j).toInt) * ((px i).toInt - (px j).toInt) + ((py i).toInt - (py j).toInt) * ((py i).toInt - (py j).toInt) < sp.toInt * sp.toInt)
def nrM (px py : Nat → Int32) (sp : Int32) (i : Nat) : Nat → Nat
  | 0 => 0
  | j + 1 => if tooNear px py sp i j then nrM px py sp i j ||| 2 ^ j else nrM px py sp i j
theorem nrM_t {px py : Nat → Int32} {sp : Int32} {i j : Nat} (h : tooNear px py sp i j = true) : nrM px py sp i (j + 1) = nrM px py sp i j ||| 2 ^ j := by simp only [nrM]; rw [if_pos h]
theorem nrM_f {px py : Nat → Int32} {sp : Int32} {i j : Nat} (h : tooNear px py sp i j = false) : nrM px py sp i (j + 1) = nrM px py sp i j := by simp only [nrM]; rw [if_neg (by rw [h]; simp)]
theorem i32_sub {x y : Int32} (hx : -1000 ≤ x.toInt ∧ x.toInt ≤ 1000) (hy : -1000 ≤ y.toInt ∧ y.toInt ≤ 1000) : (x - y).toInt = x.toInt - y.toInt := by
  rw [← zI_as x, ← zI_as y, zI_sub, zI_toInt (by omega) (by omega), zI_as, zI_as]
theorem near_iff {px py : Nat → Int32} {pl : Nat → Nat} {pk : Nat → Int32} {N : Nat} (P : POK px py pl pk N) {sp : Int32} (hs : 0 ≤ sp.toInt ∧ sp.toInt ≤ 40) {i j : Nat} (hi : i < N) (hj : j < N) (hij : i ≠ j) : (sp * sp ≤ (px i - px j) * (px i - px j) + (py i - py j) * (py i - py j)) ↔ tooNear px py sp i j = false := by
  have x1 := P.2.1 i hi
  have x2 := P.2.1 j hj
  have y1 := P.2.2.1 i hi
  have y2 := P.2.2.1 j hj
  have e1 := i32_sub (x := px i) (y := px j) (by omega) (by omega)
  have e2 := i32_sub (x := py i) (y := py j) (by omega) (by omega)
  have m1 := i2l_mul (x := px i - px j) (y := px i - px j) (A := 40) (B := 40) (by omega) (by omega) (by omega)
  have m2 := i2l_mul (x := py i - py j) (y := py i - py j) (A := 40) (B := 40) (by omega) (by omega) (by omega)
  have m3 := i2l_mul (x := sp) (y := sp) (A := 40) (B := 40) (by omega) (by omega) (by omega)
  have r1 := mul_rng (a := (px i).toInt - (px j).toInt) (b := (px i).toInt - (px j).toInt) (A := 40) (B := 40) (by omega) (by omega)
  have r2 := mul_rng (a := (py i).toInt - (py j).toInt) (b := (py i).toInt - (py j).toInt) (A := 40) (B := 40) (by omega) (by omega)
  have e3 : ((px i - px j) * (px i - px j) + (py i - py j) * (py i - py j)).toInt = ((px i).toInt - (px j).toInt) * ((px i).toInt - (px j).toInt) + ((py i).toInt - (py j).toInt) * ((py i).toInt - (py j).toInt) := by
    rw [← zI_as ((px i - px j) * (px i - px j)), ← zI_as ((py i - py j) * (py i - py j)), zI_add, m1.2, m2.2, e1, e2, zI_toInt (by omega) (by omega)]
  rw [Int32.le_iff_toInt_le, e3, m3.2]
  unfold tooNear
  rw [decide_eq_true hij, Bool.true_and, decide_eq_false_iff_not]
  omega
theorem near_same {px py : Nat → Int32} {sp : Int32} {i j : Nat} (h : i = j) : tooNear px py sp i j = false := by
  unfold tooNear; rw [decide_eq_false (fun z => z h)]; rfl
def spB (B : Nat) (nm : Nat → Nat) : Bool := (List.range 12).all (fun k => !B.testBit k || decide (B &&& nm k = 0))
theorem spB_iff {B : Nat} {nm : Nat → Nat} : spB B nm = true ↔ ∀ k, k < 12 → B.testBit k = true → B &&& nm k = 0 := by
  unfold spB
  rw [List.all_eq_true]
  constructor
  · intro h k hk hb
    have := h k (List.mem_range.mpr hk)
    rw [hb] at this
    simpa using this
  · intro h k hk
    have := h k (List.mem_range.mp hk)
    cases hb : B.testBit k
    · rfl
    · simpa using this hb
theorem spB_f {B : Nat} {nm : Nat → Nat} {k : Nat} (hk : k < 12) (hb : B.testBit k = true) (h : ¬ B &&& nm k = 0) : bI (spB B nm) = 0 := by
  rw [bI_z, ← Bool.not_eq_true, spB_iff]
  exact fun z => h (z k hk hb)
/-- driving -/
def dvF (be e : Int) : Nat → Nat → Int → Nat × Int
  | 0, k, lf => (k, lf)
  | d + 1, k, lf => if lf < be then dvF be e d (k + 1) (lf + e) else (k, lf)
theorem dvF_rng {be e : Int} (he : 1 ≤ e ∧ e ≤ 10000) (hb : 0 ≤ be ∧ be ≤ 6000) : ∀ d k lf, 0 ≤ lf → lf ≤ 16000 → k ≤ (dvF be e d k lf).1 ∧ (dvF be e d k lf).1 ≤ k + d ∧ 0 ≤ (dvF be e d k lf).2 ∧ (dvF be e d k lf).2 ≤ 16000
  | 0, k, lf, h1, h2 => by simp [dvF]; omega
  | d + 1, k, lf, h1, h2 => by
    simp only [dvF]
    split
    · have := dvF_rng he hb d (k + 1) (lf + e) (by omega) (by omega)
      omega
    · exact ⟨Nat.le_refl _, by omega, h1, h2⟩
theorem dvF_low {be e : Int} (he : 1 ≤ e ∧ e ≤ 10000) (hb : 0 ≤ be ∧ be ≤ 6000) : ∀ d k lf, 0 ≤ lf → lf ≤ 10000 + be → (dvF be e d k lf).2 ≤ 10000 + be
  | 0, k, lf, h1, h2 => by simp [dvF]; omega
  | d + 1, k, lf, h1, h2 => by
    simp only [dvF]
    split
    · exact dvF_low he hb d (k + 1) (lf + e) (by omega) (by omega)
    · exact h2
/-- a unit: does it go on, blows, left, most, used -/
def dvU (be e : Int) (m : Nat) (s : Int × Int × Int × Int) : Bool × Int × Int × Int × Int :=
  let r := dvF be e m 0 s.2.1
  if r.2 < be then (false, s.1 + r.1, r.2, max s.2.2.1 r.1, s.2.2.2) else (true, s.1 + r.1, r.2 - be, max s.2.2.1 r.1, s.2.2.2 + be)
def dvR (bq : Nat → Int) (e : Int) (m : Nat) : Nat → Nat → Int × Int × Int × Int → Nat × Int × Int × Int × Int
  | 0, u, s => (u, s)
  | d + 1, u, s => if (dvU (bq (u + 1)) e m s).1 then dvR bq e m d (u + 1) (dvU (bq (u + 1)) e m s).2 else (u, (dvU (bq (u + 1)) e m s).2)
def dvOK (u : Nat) (s : Int × Int × Int × Int) : Prop := 0 ≤ s.1 ∧ s.1 ≤ 200 * u ∧ 0 ≤ s.2.1 ∧ s.2.1 ≤ 10000 ∧ 0 ≤ s.2.2.1 ∧ s.2.2.1 ≤ 200 ∧ 0 ≤ s.2.2.2 ∧ s.2.2.2 ≤ 6000 * u
theorem dvU_ok {be e : Int} {m u : Nat} {s : Int × Int × Int × Int} (he : 1 ≤ e ∧ e ≤ 10000) (hb : 0 ≤ be ∧ be ≤ 6000) (hm : m ≤ 200) (h : dvOK u s) : dvOK (u + 1) (dvU be e m s).2 := by
  obtain ⟨h1, h2, h3, h4, h5, h6, h7, h8⟩ := h
  have r := dvF_rng he hb m 0 s.2.1 h3 (by omega)
  have r2 := dvF_low he hb m 0 s.2.1 h3 (by omega)
  unfold dvOK dvU
  dsimp only
  split <;> (dsimp only; omega)
theorem dde_t {px py : Nat → Int32} {pl : Nat → Nat} {pk : Nat → Int32} {N B : Nat} (P : POK px py pl pk N) (h : ¬ zL (dDE pk px py B N) ≤ 0) : decide (0 < dDE pk px py B N) = true := by
  have := (d_rng P B).2.2.2.2.2.2
  rw [show (0 : Int64) = zL 0 from rfl, zL_le (by omega) (by omega) (by omega) (by omega)] at h
  exact decide_eq_true (by omega)
theorem dde_f {px py : Nat → Int32} {pl : Nat → Nat} {pk : Nat → Int32} {N B : Nat} (P : POK px py pl pk N) (h : zL (dDE pk px py B N) ≤ 0) : decide (0 < dDE pk px py B N) = false := by
  have := (d_rng P B).2.2.2.2.2.2
  rw [show (0 : Int64) = zL 0 from rfl, zL_le (by omega) (by omega) (by omega) (by omega)] at h
  exact decide_eq_false (by omega)
theorem upd2 (f : Nat → Int32) (k : Nat) (x y : Int32) : upd (upd f k x) k y = upd f k y := by
  funext j
  by_cases h : j = k <;> simp [upd, h]
theorem mx_k {mo : Int} {k : Nat} (h : 0 ≤ mo ∧ mo ≤ 200) (hk : k ≤ 1000) : (if zI mo < nI k then nI k else zI mo) = zI (max mo (k : Nat)) := by
  rw [zI_nat]
  by_cases q : mo < (k : Nat)
  · rw [if_pos ((zI_lt (by omega) (by omega) (by omega) (by omega)).mpr q), Int.max_eq_right (by omega)]
  · rw [if_neg (fun z => q ((zI_lt (by omega) (by omega) (by omega) (by omega)).mp z)), Int.max_eq_left (by omega)]
theorem dvU_t {be e : Int} {m k : Nat} {b lf mo us l2 : Int} (hf : dvF be e m 0 lf = (k, l2)) (h : ¬ l2 < be) : dvU be e m (b, lf, mo, us) = (true, b + (k : Nat), l2 - be, max mo (k : Nat), us + be) := by
  unfold dvU
  dsimp only
  rw [hf]
  dsimp only
  rw [if_neg h]
theorem dvU_f {be e : Int} {m k : Nat} {b lf mo us l2 : Int} (hf : dvF be e m 0 lf = (k, l2)) (h : l2 < be) : dvU be e m (b, lf, mo, us) = (false, b + (k : Nat), l2, max mo (k : Nat), us) := by
  unfold dvU
  dsimp only
  rw [hf]
  dsimp only
  rw [if_pos h]
end
section
/-! compare, bits -/
def popc (M : Nat) : Nat := nsum (fun k => if M.testBit k then 1 else 0) 12
def cmpL (x y : Int64) : Int32 := if x < y then -1 else if x = y then 0 else 1
def cmpF (a b c d : Nat) : Int32 := if a * d < c * b then -1 else if a * d = c * b then 0 else 1
theorem cmpL_lN {a b : Nat} (ha : a < 2 ^ 63) (hb : b < 2 ^ 63) : cmpL (lN a) (lN b) = if a < b then -1 else if a = b then 0 else 1 := by
  unfold cmpL
  simp only [pk_lLT ha hb, pk_lEQ ha hb]
theorem frac_lt {a b q : Nat} (hb : 0 < b) (h : a / b < q) : a < q * b := (Nat.div_lt_iff_lt_mul hb).mp h
theorem cmpF_lt {a b c d : Nat} (hb : 0 < b) (hd : 0 < d) (h : a / b < c / d) : cmpF a b c d = -1 := by
  unfold cmpF
  have h1 : a < (c / d) * b := frac_lt hb h
  have h2 : (c / d) * d ≤ c := Nat.div_mul_le_self c d
  have h3 : a * d < c * b := by
    calc a * d < (c / d) * b * d := Nat.mul_lt_mul_of_pos_right h1 hd
      _ = (c / d) * d * b := by rw [Nat.mul_right_comm]
      _ ≤ c * b := Nat.mul_le_mul_right _ h2
  rw [if_pos h3]
theorem cmpF_gt {a b c d : Nat} (hb : 0 < b) (hd : 0 < d) (h : c / d < a / b) : cmpF a b c d = 1 := by
  unfold cmpF
  have h1 : c < (a / b) * d := frac_lt hd h
  have h2 : (a / b) * b ≤ a := Nat.div_mul_le_self a b
  have h3 : c * b < a * d := by
    calc c * b < (a / b) * d * b := Nat.mul_lt_mul_of_pos_right h1 hb
      _ = (a / b) * b * d := by rw [Nat.mul_right_comm]
      _ ≤ a * d := Nat.mul_le_mul_right _ h2
  rw [if_neg (by omega), if_neg (by omega)]
theorem frac_split {a b c d : Nat} (h : a / b = c / d) : a * d = (a / b) * (b * d) + (a % b) * d ∧ c * b = (a / b) * (b * d) + (c % d) * b := by
  have e1 := Nat.div_add_mod a b
  have e2 := Nat.div_add_mod c d
  constructor
  · calc a * d = (b * (a / b) + a % b) * d := by rw [e1]
      _ = (a / b) * (b * d) + (a % b) * d := by rw [Nat.add_mul, Nat.mul_comm b (a / b), Nat.mul_assoc]
  · calc c * b = (d * (c / d) + c % d) * b := by rw [e2]
      _ = (a / b) * (b * d) + (c % d) * b := by rw [Nat.add_mul, ← h, Nat.mul_comm d (a / b), Nat.mul_assoc, Nat.mul_comm d b]
theorem cmpF_rest {a b c d : Nat} (h : a / b = c / d) : cmpF a b c d = cmpF (a % b) b (c % d) d := by
  obtain ⟨e1, e2⟩ := frac_split h
  unfold cmpF
  rw [e1, e2]
  by_cases q : (a % b) * d < (c % d) * b
  · rw [if_pos (by omega), if_pos q]
  · rw [if_neg (by omega), if_neg q]
    by_cases q2 : (a % b) * d = (c % d) * b
    · rw [if_pos (by omega), if_pos q2]
    · rw [if_neg (by omega), if_neg q2]
theorem cmpF_turn {r b u d : Nat} : cmpF r b u d = cmpF d u b r := by
  unfold cmpF
  rw [Nat.mul_comm d r, Nat.mul_comm b u]
theorem cmpF_z {r b u d : Nat} (hb : 0 < b) (hd : 0 < d) (h : r = 0 ∨ u = 0) : cmpF r b u d = if r < u then -1 else if r = u then 0 else 1 := by
  unfold cmpF
  rcases h with h | h
  · subst h
    rw [Nat.zero_mul]
    rcases Nat.eq_zero_or_pos u with q | q
    · subst q; simp
    · have : 0 < u * b := Nat.mul_pos q hb
      rw [if_pos this, if_pos q]
  · subst h
    rw [Nat.zero_mul]
    rcases Nat.eq_zero_or_pos r with q | q
    · subst q; simp
    · have : 0 < r * d := Nat.mul_pos q hd
      rw [if_neg (by omega), if_neg (by omega), if_neg (by omega), if_neg (by omega)]
theorem cmpF_neg {a b c d : Nat} : cmpF a b c d < 0 ↔ a * d < c * b := by
  unfold cmpF
  by_cases h : a * d < c * b
  · rw [if_pos h]; exact ⟨fun _ => h, fun _ => by decide⟩
  · rw [if_neg h]
    by_cases h2 : a * d = c * b
    · rw [if_pos h2]; exact ⟨fun z => absurd z (by decide), fun z => absurd z h⟩
    · rw [if_neg h2]; exact ⟨fun z => absurd z (by decide), fun z => absurd z h⟩
def us32 (x : Int32) (k : Int32) : Int32 := (x.toUInt32 >>> (k.toUInt32 &&& Int32.toUInt32 31)).toInt32
def bc1 (x : Int32) : Int32 := x - (us32 x 1 &&& 1431655765)
def bc2 (x : Int32) : Int32 := (x &&& 858993459) + (us32 x 2 &&& 858993459)
def bc3 (x : Int32) : Int32 := (x + us32 x 4) &&& 252645135
def bc4 (x : Int32) : Int32 := x + us32 x 8
def bc5 (x : Int32) : Int32 := x + us32 x 16
def bcI (x : Int32) : Int32 := bc5 (bc4 (bc3 (bc2 (bc1 x)))) &&& 63
set_option maxRecDepth 100000 in
theorem bc_all : (List.range 4096).all (fun M => decide (bcI (nI M) = nI (popc M))) = true := by decide +kernel
theorem bc_ok {M : Nat} (h : M < 4096) : bcI (nI M) = nI (popc M) := by
  have := List.all_eq_true.mp bc_all M (List.mem_range.mpr h)
  simpa using this
theorem cq_eq {p q : Nat} (h : (if p < q then (-1 : Int32) else if p = q then 0 else 1) = 0) : p = q := by
  by_cases h1 : p < q
  · rw [if_pos h1] at h; exact absurd h (by decide)
  · rw [if_neg h1] at h
    by_cases h2 : p = q
    · exact h2
    · rw [if_neg h2] at h; exact absurd h (by decide)
theorem cq_ne {a b c d : Nat} (hb : 0 < b) (hd : 0 < d) (h : ¬ a / b = c / d) : cmpF a b c d = (if a / b < c / d then (-1 : Int32) else if a / b = c / d then 0 else 1) := by
  by_cases h1 : a / b < c / d
  · rw [if_pos h1, cmpF_lt hb hd h1]
  · rw [if_neg h1, if_neg h, cmpF_gt hb hd (by omega)]
end
section
section GR
variable {l : Launch} {D : va_G} {cI cJ cZ : ClassId}
set_option maxHeartbeats 4000000 in
set_option maxRecDepth 100000 in
theorem c_X2_layerAt (g ga gb gc : Nat) (th sd tp : Nat → Int32) (n : Nat) (sc : Int32) (u : Nat) (G : GOK th sd tp n sc) (hu : u ≤ 1000) : Ct l D (TY cI cJ cZ) yX2_layerAt cX2_layerAt 4 (some .int) 0 0 0 0 [.ref g, .int (nI u)] [(g, .inr (2, [.ref ga, .ref gb, .ref gc, .int (nI n), .int sc])), (ga, .inl (cI, 6, .inl th)), (gb, .inl (cI, 6, .inl sd)), (gc, .inl (cI, 6, .inl tp))] (fun r w => r = some (.int (zI (gLI th n u))) ∧ w = [(g, .inr (2, [.ref ga, .ref gb, .ref gc, .int (nI n), .int sc])), (ga, .inl (cI, 6, .inl th)), (gb, .inl (cI, 6, .inl sd)), (gc, .inl (cI, 6, .inl tp))]) := by
  refine Ct.ofI (ty := .int) (by decide) (Nat.le_of_ble_eq_true rfl) ?_
  intro p e s m args below meth c A R Q F hnm hcs0 hE
  refine v_lv (lv' := [(0, .ref g), (1, .int (nI u))]) [0, 1] rfl ?_
  have hn6 := G.1
  have L4 : ∀ (d k : Nat), k + d = n → gLf th u n 0 = gLf th u d k → V p l e R s m args below meth c D A 4 0 0 Q 4 [(0, .ref g), (1, .int (nI u)), (2, .int (zI (gB th k))), (3, .int (nI k))] [] [(g, .inr (2, [.ref ga, .ref gb, .ref gc, .int (nI n), .int sc])), (ga, .inl (cI, 6, .inl th)), (gb, .inl (cI, 6, .inl sd)), (gc, .inl (cI, 6, .inl tp))] := by
    intro d
    induction d using Nat.strongRecOn with
    | _ d ih => ?_
    intro k hk hf
    refine v_iload_n F dX2_layerAt_4 (i := 3) rfl 3 rfl (q := 5) rfl ?_
    refine v_aload_n F dX2_layerAt_5 (i := 0) rfl 0 rfl (q := 6) rfl ?_
    refine gt_X2_21 F dX2_layerAt_6 0 rfl rfl (q := 9) rfl ?_
    refine v_icmp_ge F dX2_layerAt_9 (tgt := 34) rfl (q := 12) rfl (fun c9 => ?_) (fun c9 => ?_)
    · skip
      rw [nI_leI (by omega) (by omega)] at c9
      have hd0 : d = 0 := by omega
      subst hd0
      have hkn : k = n := by omega
      subst hkn
      refine v_aload_n F dX2_layerAt_34 (i := 0) rfl 0 rfl (q := 35) rfl ?_
      refine gt_X2_21 F dX2_layerAt_35 0 rfl rfl (q := 38) rfl ?_
      refine v_iconst F dX2_layerAt_38 (v := 1) (q := 39) rfl rfl ?_
      refine v_isub F dX2_layerAt_39 (q := 40) rfl ?_
      exact hE rfl dX2_layerAt_40 (Nat.zero_le _) (Nat.zero_le _) ⟨⟨by rw [gL_out hf], rfl⟩, Nat.le_of_ble_eq_true rfl⟩
    · skip
      rw [nI_leI (by omega) (by omega)] at c9
      obtain ⟨d, rfl⟩ : ∃ d2, d = d2 + 1 := ⟨d - 1, by omega⟩
      have hB := gB_rng G.2.1 (k + 1) (by omega)
      simp only [gLf] at hf
      refine v_iload_n F dX2_layerAt_12 (i := 2) rfl 2 rfl (q := 13) rfl ?_
      refine v_aload_n F dX2_layerAt_13 (i := 0) rfl 0 rfl (q := 14) rfl ?_
      refine gt_X2_9 F dX2_layerAt_14 0 rfl rfl (q := 17) rfl ?_
      refine v_iload_n F dX2_layerAt_17 (i := 3) rfl 3 rfl (q := 18) rfl ?_
      refine v_ialdN F 1 0 rfl rfl (j := k) (by omega) (by decide) dX2_layerAt_18 (q := 19) rfl ?_
      refine v_iadd F dX2_layerAt_19 (q := 20) rfl ?_
      refine v_int (y := zI (gB th (k + 1))) (gB_step) ?_
      refine v_istore_n F dX2_layerAt_20 (i := 2) (lv' := [(2, .int (zI (gB th (k + 1)))), (0, .ref g), (1, .int (nI u)), (3, .int (nI k))]) rfl (Nat.le_of_ble_eq_true rfl) rfl (q := 21) rfl ?_
      refine v_iload_n F dX2_layerAt_21 (i := 1) rfl 2 rfl (q := 22) rfl ?_
      refine v_iload_n F dX2_layerAt_22 (i := 2) rfl 0 rfl (q := 23) rfl ?_
      refine v_icmp_ge F dX2_layerAt_23 (tgt := 28) rfl (q := 26) rfl (fun c23 => ?_) (fun c23 => ?_)
      · skip
        rw [zI_nat, zI_le (by omega) (by omega) (by omega) (by omega)] at c23
        rw [if_neg (by omega)] at hf
        refine v_iinc F dX2_layerAt_28 3 rfl (v := nI (k + 1)) (lv' := [(3, .int (nI (k + 1))), (2, .int (zI (gB th (k + 1)))), (0, .ref g), (1, .int (nI u))]) (nI_1 k) (Nat.le_of_ble_eq_true rfl) rfl (q := 31) rfl ?_
        refine v_goto F dX2_layerAt_31 (tgt := 4) rfl ?_
        refine v_lv (lv' := [(0, .ref g), (1, .int (nI u)), (2, .int (zI (gB th (k + 1)))), (3, .int (nI (k + 1)))]) [2, 3, 1, 0] rfl ?_
        exact ih d (by omega) (k + 1) (by omega) hf
      · skip
        rw [zI_nat, zI_le (by omega) (by omega) (by omega) (by omega)] at c23
        rw [if_pos (by omega)] at hf
        refine v_iload_n F dX2_layerAt_26 (i := 3) rfl 3 rfl (q := 27) rfl ?_
        exact hE rfl dX2_layerAt_27 (Nat.zero_le _) (Nat.zero_le _) ⟨⟨by rw [gL_at (by omega) hf], rfl⟩, Nat.le_of_ble_eq_true rfl⟩
  refine v_iconst F dX2_layerAt_0 (v := 0) (q := 1) rfl rfl ?_
  refine v_istore_n F dX2_layerAt_1 (i := 2) (lv' := [(2, .int 0), (0, .ref g), (1, .int (nI u))]) rfl (Nat.le_of_ble_eq_true rfl) rfl (q := 2) rfl ?_
  refine v_iconst F dX2_layerAt_2 (v := 0) (q := 3) rfl rfl ?_
  refine v_istore_n F dX2_layerAt_3 (i := 3) (lv' := [(3, .int 0), (2, .int 0), (0, .ref g), (1, .int (nI u))]) rfl (Nat.le_of_ble_eq_true rfl) rfl (q := 4) rfl ?_
  refine v_lv (lv' := [(0, .ref g), (1, .int (nI u)), (2, .int 0), (3, .int 0)]) [2, 3, 1, 0] rfl ?_
  exact L4 n 0 (by omega) rfl

set_option maxHeartbeats 4000000 in
set_option maxRecDepth 100000 in
theorem c_X2_sideAt (g ga gb gc : Nat) (th sd tp : Nat → Int32) (n : Nat) (sc : Int32) (u : Nat) (G : GOK th sd tp n sc) (hu : u ≤ 1000) : Ct l D (TY cI cJ cZ) yX2_sideAt cX2_sideAt 3 (some .int) 1 23 0 0 [.ref g, .int (nI u)] [(g, .inr (2, [.ref ga, .ref gb, .ref gc, .int (nI n), .int sc])), (ga, .inl (cI, 6, .inl th)), (gb, .inl (cI, 6, .inl sd)), (gc, .inl (cI, 6, .inl tp))] (fun r w => r = some (.int (zI (gSD th sd n sc u))) ∧ w = [(g, .inr (2, [.ref ga, .ref gb, .ref gc, .int (nI n), .int sc])), (ga, .inl (cI, 6, .inl th)), (gb, .inl (cI, 6, .inl sd)), (gc, .inl (cI, 6, .inl tp))]) := by
  refine Ct.ofI (ty := .int) (by decide) (Nat.le_of_ble_eq_true rfl) ?_
  intro p e s m args below meth c A R Q F hnm hcs0 hE
  refine v_lv (lv' := [(0, .ref g), (1, .int (nI u))]) [0, 1] rfl ?_
  have hn6 := G.1
  refine v_aload_n F dX2_sideAt_0 (i := 0) rfl 0 rfl (q := 1) rfl ?_
  refine v_iload_n F dX2_sideAt_1 (i := 1) rfl 1 rfl (q := 2) rfl ?_
  refine v_callV F ml_X2_28 im_X2_layerAt se_X2_layerAt in_X2 co_X2_layerAt sd_X2_layerAt (c_X2_layerAt g ga gb gc th sd tp n sc u G (by omega)) ⟨Nat.zero_le _, Nat.zero_le _⟩ (Nat.le_of_ble_eq_true rfl) (Nat.le_of_ble_eq_true rfl) 0 (As := [.int (nI u)]) rfl rfl rfl rfl rfl [0, 1, 2, 3] rfl rfl rfl (rest := []) rfl (Nat.le_of_ble_eq_true rfl) dX2_sideAt_2 (q := 5) rfl (fun r w hr => ?_)
  obtain ⟨rfl, rfl⟩ := hr
  refine v_ws (ws' := [(g, .inr (2, [.ref ga, .ref gb, .ref gc, .int (nI n), .int sc])), (ga, .inl (cI, 6, .inl th)), (gb, .inl (cI, 6, .inl sd)), (gc, .inl (cI, 6, .inl tp))]) rfl ?_
  refine v_st (st' := [.int (zI (gLI th n u))]) rfl ?_
  refine v_istore_n F dX2_sideAt_5 (i := 2) (lv' := [(2, .int (zI (gLI th n u))), (0, .ref g), (1, .int (nI u))]) rfl (Nat.le_of_ble_eq_true rfl) rfl (q := 6) rfl ?_
  refine v_iload_n F dX2_sideAt_6 (i := 2) rfl 0 rfl (q := 7) rfl ?_
  refine v_if_lt F dX2_sideAt_7 (tgt := 18) rfl (q := 10) rfl (fun c7 => ?_) (fun c7 => ?_)
  · skip
    rw [gLI_neg hn6] at c7
    refine v_iconst F dX2_sideAt_18 (v := 0) (q := 19) rfl rfl ?_
    refine v_goto F dX2_sideAt_19 (tgt := 28) rfl ?_
    exact hE rfl dX2_sideAt_28 (Nat.zero_le _) (Nat.zero_le _) ⟨⟨by first | rw [← gSD_0 c7] | rw [← gSD_s hu c15], rfl⟩, Nat.le_of_ble_eq_true rfl⟩
  · skip
    rw [gLI_neg hn6] at c7
    have hlt := gL_lt (th := th) (u := u) (Nat.pos_of_ne_zero c7)
    refine v_iload_n F dX2_sideAt_10 (i := 1) rfl 2 rfl (q := 11) rfl ?_
    refine v_aload_n F dX2_sideAt_11 (i := 0) rfl 1 rfl (q := 12) rfl ?_
    refine gt_X2_25 F dX2_sideAt_12 0 rfl rfl (q := 15) rfl ?_
    refine v_icmp_ge F dX2_sideAt_15 (tgt := 22) rfl (q := 18) rfl (fun c15 => ?_) (fun c15 => ?_)
    · skip
      refine v_aload_n F dX2_sideAt_22 (i := 0) rfl 1 rfl (q := 23) rfl ?_
      refine gt_X2_15 F dX2_sideAt_23 0 rfl rfl (q := 26) rfl ?_
      refine v_iload_n F dX2_sideAt_26 (i := 2) rfl 0 rfl (q := 27) rfl ?_
      refine v_int (y := nI (gL th n u)) (gLI_pos c7) ?_
      refine v_ialdN F 2 0 rfl rfl (j := gL th n u) (by omega) (by decide) dX2_sideAt_27 (q := 28) rfl ?_
      exact hE rfl dX2_sideAt_28 (Nat.zero_le _) (Nat.zero_le _) ⟨⟨by rw [← gSD_n hu c7 c15], rfl⟩, Nat.le_of_ble_eq_true rfl⟩
    · skip
      refine v_iconst F dX2_sideAt_18 (v := 0) (q := 19) rfl rfl ?_
      refine v_goto F dX2_sideAt_19 (tgt := 28) rfl ?_
      exact hE rfl dX2_sideAt_28 (Nat.zero_le _) (Nat.zero_le _) ⟨⟨by first | rw [← gSD_0 c7] | rw [← gSD_s hu c15], rfl⟩, Nat.le_of_ble_eq_true rfl⟩

set_option maxHeartbeats 4000000 in
set_option maxRecDepth 100000 in
theorem c_X2_tipBelow (g ga gb gc : Nat) (th sd tp : Nat → Int32) (n : Nat) (sc : Int32) (u : Nat) (G : GOK th sd tp n sc) (hu : u ≤ 1000) : Ct l D (TY cI cJ cZ) yX2_tipBelow cX2_tipBelow 3 (some .int) 1 23 0 0 [.ref g, .int (nI u)] [(g, .inr (2, [.ref ga, .ref gb, .ref gc, .int (nI n), .int sc])), (ga, .inl (cI, 6, .inl th)), (gb, .inl (cI, 6, .inl sd)), (gc, .inl (cI, 6, .inl tp))] (fun r w => r = some (.int (zI (gTI th tp n u))) ∧ w = [(g, .inr (2, [.ref ga, .ref gb, .ref gc, .int (nI n), .int sc])), (ga, .inl (cI, 6, .inl th)), (gb, .inl (cI, 6, .inl sd)), (gc, .inl (cI, 6, .inl tp))]) := by
  refine Ct.ofI (ty := .int) (by decide) (Nat.le_of_ble_eq_true rfl) ?_
  intro p e s m args below meth c A R Q F hnm hcs0 hE
  refine v_lv (lv' := [(0, .ref g), (1, .int (nI u))]) [0, 1] rfl ?_
  have hn6 := G.1
  refine v_aload_n F dX2_tipBelow_0 (i := 0) rfl 0 rfl (q := 1) rfl ?_
  refine v_iload_n F dX2_tipBelow_1 (i := 1) rfl 1 rfl (q := 2) rfl ?_
  refine v_callV F ml_X2_28 im_X2_layerAt se_X2_layerAt in_X2 co_X2_layerAt sd_X2_layerAt (c_X2_layerAt g ga gb gc th sd tp n sc u G (by omega)) ⟨Nat.zero_le _, Nat.zero_le _⟩ (Nat.le_of_ble_eq_true rfl) (Nat.le_of_ble_eq_true rfl) 0 (As := [.int (nI u)]) rfl rfl rfl rfl rfl [0, 1, 2, 3] rfl rfl rfl (rest := []) rfl (Nat.le_of_ble_eq_true rfl) dX2_tipBelow_2 (q := 5) rfl (fun r w hr => ?_)
  obtain ⟨rfl, rfl⟩ := hr
  refine v_ws (ws' := [(g, .inr (2, [.ref ga, .ref gb, .ref gc, .int (nI n), .int sc])), (ga, .inl (cI, 6, .inl th)), (gb, .inl (cI, 6, .inl sd)), (gc, .inl (cI, 6, .inl tp))]) rfl ?_
  refine v_st (st' := [.int (zI (gLI th n u))]) rfl ?_
  refine v_istore_n F dX2_tipBelow_5 (i := 2) (lv' := [(2, .int (zI (gLI th n u))), (0, .ref g), (1, .int (nI u))]) rfl (Nat.le_of_ble_eq_true rfl) rfl (q := 6) rfl ?_
  refine v_iload_n F dX2_tipBelow_6 (i := 2) rfl 0 rfl (q := 7) rfl ?_
  refine v_if_ge F dX2_tipBelow_7 (tgt := 14) rfl (q := 10) rfl (fun c7 => ?_) (fun c7 => ?_)
  · skip
    have c7 : n ≠ 0 := fun z => (i32_nlt.mpr c7) ((gLI_neg hn6).mpr z)
    have hlt := gL_lt (th := th) (u := u) (Nat.pos_of_ne_zero c7)
    refine v_aload_n F dX2_tipBelow_14 (i := 0) rfl 1 rfl (q := 15) rfl ?_
    refine gt_X2_18 F dX2_tipBelow_15 0 rfl rfl (q := 18) rfl ?_
    refine v_iload_n F dX2_tipBelow_18 (i := 2) rfl 0 rfl (q := 19) rfl ?_
    refine v_int (y := nI (gL th n u)) (gLI_pos c7) ?_
    refine v_ialdN F 3 0 rfl rfl (j := gL th n u) (by omega) (by decide) dX2_tipBelow_19 (q := 20) rfl ?_
    exact hE rfl dX2_tipBelow_20 (Nat.zero_le _) (Nat.zero_le _) ⟨⟨by rw [← gTI_n c7], rfl⟩, Nat.le_of_ble_eq_true rfl⟩
  · skip
    have c7 := gLI_neg hn6 |>.mp (i32_nle.mp c7)
    refine v_iconst F dX2_tipBelow_10 (v := 0) (q := 11) rfl rfl ?_
    refine v_goto F dX2_tipBelow_11 (tgt := 20) rfl ?_
    exact hE rfl dX2_tipBelow_20 (Nat.zero_le _) (Nat.zero_le _) ⟨⟨by rw [← gTI_0 c7], rfl⟩, Nat.le_of_ble_eq_true rfl⟩

set_option maxHeartbeats 4000000 in
set_option maxRecDepth 100000 in
theorem c_X2_pullOf (g ga gb gc : Nat) (th sd tp : Nat → Int32) (n : Nat) (sc : Int32) (u : Nat) (G : GOK th sd tp n sc) (hu : u ≤ 1000) : Ct l D (TY cI cJ cZ) yX2_pullOf cX2_pullOf 6 (some .int) 1 16 0 0 [.ref g, .int (nI u)] [(g, .inr (2, [.ref ga, .ref gb, .ref gc, .int (nI n), .int sc])), (ga, .inl (cI, 6, .inl th)), (gb, .inl (cI, 6, .inl sd)), (gc, .inl (cI, 6, .inl tp))] (fun r w => r = some (.int (zI (gPU th sd n sc u))) ∧ w = [(g, .inr (2, [.ref ga, .ref gb, .ref gc, .int (nI n), .int sc])), (ga, .inl (cI, 6, .inl th)), (gb, .inl (cI, 6, .inl sd)), (gc, .inl (cI, 6, .inl tp))]) := by
  refine Ct.ofI (ty := .int) (by decide) (Nat.le_of_ble_eq_true rfl) ?_
  intro p e s m args below meth c A R Q F hnm hcs0 hE
  refine v_lv (lv' := [(0, .ref g), (1, .int (nI u))]) [0, 1] rfl ?_
  have hn6 := G.1
  have L7 : ∀ (d k : Nat), k + d = n → V p l e R s m args below meth c D A 6 0 0 Q 7 [(0, .ref g), (1, .int (nI u)), (2, .int (zI (cPU th sd n sc u k))), (3, .int (zI (gB th k))), (4, .int (nI k))] [] [(g, .inr (2, [.ref ga, .ref gb, .ref gc, .int (nI n), .int sc])), (ga, .inl (cI, 6, .inl th)), (gb, .inl (cI, 6, .inl sd)), (gc, .inl (cI, 6, .inl tp))] := by
    intro d
    induction d using Nat.strongRecOn with
    | _ d ih => ?_
    intro k hk
    refine v_iload F dX2_pullOf_7 4 rfl (q := 9) rfl ?_
    refine v_aload_n F dX2_pullOf_9 (i := 0) rfl 0 rfl (q := 10) rfl ?_
    refine gt_X2_21 F dX2_pullOf_10 0 rfl rfl (q := 13) rfl ?_
    refine v_icmp_ge F dX2_pullOf_13 (tgt := 88) rfl (q := 16) rfl (fun c13 => ?_) (fun c13 => ?_)
    · skip
      rw [nI_leI (by omega) (by omega)] at c13
      have hkn : k = n := by omega
      subst hkn
      refine v_iload_n F dX2_pullOf_88 (i := 2) rfl 2 rfl (q := 89) rfl ?_
      exact hE rfl dX2_pullOf_89 (Nat.zero_le _) (Nat.zero_le _) ⟨⟨by rw [cPU_is G.2.1 G.2.2.2.2.1], rfl⟩, Nat.le_of_ble_eq_true rfl⟩
    · skip
      rw [nI_leI (by omega) (by omega)] at c13
      obtain ⟨d, rfl⟩ : ∃ d2, d = d2 + 1 := ⟨d - 1, by omega⟩
      have hB := gB_rng G.2.1 (k + 1) (by omega)
      have hB0 := gB_rng G.2.1 k (by omega)
      have hT := G.2.1 k (by omega)
      have hsc := G.2.2.2.2
      refine v_iload F dX2_pullOf_16 4 rfl (q := 18) rfl ?_
      refine v_aload_n F dX2_pullOf_18 (i := 0) rfl 0 rfl (q := 19) rfl ?_
      refine gt_X2_21 F dX2_pullOf_19 0 rfl rfl (q := 22) rfl ?_
      refine v_iconst F dX2_pullOf_22 (v := 1) (q := 23) rfl rfl ?_
      refine v_isub F dX2_pullOf_23 (q := 24) rfl ?_
      refine v_icmp_ne F dX2_pullOf_24 (tgt := 31) rfl (q := 27) rfl (fun c24 => ?_) (fun c24 => ?_)
      · skip
        have c24 : ¬ k + 1 = n := fun z => c24 (by rw [← z, nI_succ]; simp)
        refine v_iload_n F dX2_pullOf_31 (i := 1) rfl 1 rfl (q := 32) rfl ?_
        refine v_iload_n F dX2_pullOf_32 (i := 3) rfl 3 rfl (q := 33) rfl ?_
        refine v_aload_n F dX2_pullOf_33 (i := 0) rfl 0 rfl (q := 34) rfl ?_
        refine gt_X2_9 F dX2_pullOf_34 0 rfl rfl (q := 37) rfl ?_
        refine v_iload F dX2_pullOf_37 4 rfl (q := 39) rfl ?_
        refine v_ialdN F 1 0 rfl rfl (j := k) (by omega) (by decide) dX2_pullOf_39 (q := 40) rfl ?_
        refine v_iadd F dX2_pullOf_40 (q := 41) rfl ?_
        refine v_mmin F ml_X2_32 sm_Mmin inS_J9 co_Mmin ⟨Nat.zero_le _, Nat.zero_le _⟩ dX2_pullOf_41 (Nat.le_of_ble_eq_true rfl) (Nat.le_of_ble_eq_true rfl) (q := 44) rfl ?_
        refine v_int (y := zI (if k + 1 = n then (u : Int) else min u (gB th (k + 1)))) (pu_bt2 c24 hu (by omega) (by omega)) ?_
        refine v_istore F dX2_pullOf_44 (lv' := [(5, .int (zI (if k + 1 = n then (u : Int) else min u (gB th (k + 1))))), (0, .ref g), (1, .int (nI u)), (2, .int (zI (cPU th sd n sc u k))), (3, .int (zI (gB th k))), (4, .int (nI k))]) (Nat.le_of_ble_eq_true rfl) rfl (q := 46) rfl ?_
        refine v_iload_n F dX2_pullOf_46 (i := 2) rfl 3 rfl (q := 47) rfl ?_
        refine v_iconst F dX2_pullOf_47 (v := 0) (q := 48) rfl rfl ?_
        refine v_iload F dX2_pullOf_48 0 rfl (q := 50) rfl ?_
        refine v_iload_n F dX2_pullOf_50 (i := 3) rfl 4 rfl (q := 51) rfl ?_
        refine v_aload_n F dX2_pullOf_51 (i := 0) rfl 1 rfl (q := 52) rfl ?_
        refine gt_X2_25 F dX2_pullOf_52 0 rfl rfl (q := 55) rfl ?_
        refine v_mmax F ml_X2_38 sm_Mmax inS_J9 co_Mmax ⟨Nat.zero_le _, Nat.zero_le _⟩ dX2_pullOf_55 (Nat.le_of_ble_eq_true rfl) (Nat.le_of_ble_eq_true rfl) (q := 58) rfl ?_
        refine v_isub F dX2_pullOf_58 (q := 59) rfl ?_
        refine v_mmax F ml_X2_38 sm_Mmax inS_J9 co_Mmax ⟨Nat.zero_le _, Nat.zero_le _⟩ dX2_pullOf_59 (Nat.le_of_ble_eq_true rfl) (Nat.le_of_ble_eq_true rfl) (q := 62) rfl ?_
        refine v_int (y := zI (cZ_ th n sc u k)) (pu_z hu (by omega) (by omega) hsc.1 hsc.2) ?_
        refine v_aload_n F dX2_pullOf_62 (i := 0) rfl 1 rfl (q := 63) rfl ?_
        refine gt_X2_15 F dX2_pullOf_63 0 rfl rfl (q := 66) rfl ?_
        refine v_iload F dX2_pullOf_66 5 rfl (q := 68) rfl ?_
        refine v_ialdN F 2 0 rfl rfl (j := k) (by omega) (by decide) dX2_pullOf_68 (q := 69) rfl ?_
        refine v_imul F dX2_pullOf_69 (q := 70) rfl ?_
        refine v_iadd F dX2_pullOf_70 (q := 71) rfl ?_
        refine v_int (y := zI (cPU th sd n sc u (k + 1))) (pu_step) ?_
        refine v_istore_n F dX2_pullOf_71 (i := 2) (lv' := [(2, .int (zI (cPU th sd n sc u (k + 1)))), (5, .int (zI (if k + 1 = n then (u : Int) else min u (gB th (k + 1))))), (0, .ref g), (1, .int (nI u)), (3, .int (zI (gB th k))), (4, .int (nI k))]) rfl (Nat.le_of_ble_eq_true rfl) rfl (q := 72) rfl ?_
        refine v_iload_n F dX2_pullOf_72 (i := 3) rfl 4 rfl (q := 73) rfl ?_
        refine v_aload_n F dX2_pullOf_73 (i := 0) rfl 2 rfl (q := 74) rfl ?_
        refine gt_X2_9 F dX2_pullOf_74 0 rfl rfl (q := 77) rfl ?_
        refine v_iload F dX2_pullOf_77 5 rfl (q := 79) rfl ?_
        refine v_ialdN F 1 0 rfl rfl (j := k) (by omega) (by decide) dX2_pullOf_79 (q := 80) rfl ?_
        refine v_iadd F dX2_pullOf_80 (q := 81) rfl ?_
        refine v_int (y := zI (gB th (k + 1))) (gB_step) ?_
        refine v_istore_n F dX2_pullOf_81 (i := 3) (lv' := [(3, .int (zI (gB th (k + 1)))), (2, .int (zI (cPU th sd n sc u (k + 1)))), (5, .int (zI (if k + 1 = n then (u : Int) else min u (gB th (k + 1))))), (0, .ref g), (1, .int (nI u)), (4, .int (nI k))]) rfl (Nat.le_of_ble_eq_true rfl) rfl (q := 82) rfl ?_
        refine v_iinc F dX2_pullOf_82 5 rfl (v := nI (k + 1)) (lv' := [(4, .int (nI (k + 1))), (3, .int (zI (gB th (k + 1)))), (2, .int (zI (cPU th sd n sc u (k + 1)))), (5, .int (zI (if k + 1 = n then (u : Int) else min u (gB th (k + 1))))), (0, .ref g), (1, .int (nI u))]) (nI_1 k) (Nat.le_of_ble_eq_true rfl) rfl (q := 85) rfl ?_
        refine v_goto F dX2_pullOf_85 (tgt := 7) rfl ?_
        refine v_lv (lv' := [(0, .ref g), (1, .int (nI u)), (2, .int (zI (cPU th sd n sc u (k + 1)))), (3, .int (zI (gB th (k + 1)))), (4, .int (nI (k + 1)))]) [4, 5, 2, 1, 0] rfl ?_
        exact ih d (by omega) (k + 1) (by omega)
      · skip
        have c24 : k + 1 = n := by
          have e : nI k + 1 = nI n := by rw [c24]; simp
          rw [nI_1, nI_eq (by omega) (by omega)] at e
          exact e
        refine v_iload_n F dX2_pullOf_27 (i := 1) rfl 1 rfl (q := 28) rfl ?_
        refine v_goto F dX2_pullOf_28 (tgt := 44) rfl ?_
        refine v_int (y := zI (if k + 1 = n then (u : Int) else min u (gB th (k + 1)))) (pu_bt1 c24) ?_
        refine v_istore F dX2_pullOf_44 (lv' := [(5, .int (zI (if k + 1 = n then (u : Int) else min u (gB th (k + 1))))), (0, .ref g), (1, .int (nI u)), (2, .int (zI (cPU th sd n sc u k))), (3, .int (zI (gB th k))), (4, .int (nI k))]) (Nat.le_of_ble_eq_true rfl) rfl (q := 46) rfl ?_
        refine v_iload_n F dX2_pullOf_46 (i := 2) rfl 3 rfl (q := 47) rfl ?_
        refine v_iconst F dX2_pullOf_47 (v := 0) (q := 48) rfl rfl ?_
        refine v_iload F dX2_pullOf_48 0 rfl (q := 50) rfl ?_
        refine v_iload_n F dX2_pullOf_50 (i := 3) rfl 4 rfl (q := 51) rfl ?_
        refine v_aload_n F dX2_pullOf_51 (i := 0) rfl 1 rfl (q := 52) rfl ?_
        refine gt_X2_25 F dX2_pullOf_52 0 rfl rfl (q := 55) rfl ?_
        refine v_mmax F ml_X2_38 sm_Mmax inS_J9 co_Mmax ⟨Nat.zero_le _, Nat.zero_le _⟩ dX2_pullOf_55 (Nat.le_of_ble_eq_true rfl) (Nat.le_of_ble_eq_true rfl) (q := 58) rfl ?_
        refine v_isub F dX2_pullOf_58 (q := 59) rfl ?_
        refine v_mmax F ml_X2_38 sm_Mmax inS_J9 co_Mmax ⟨Nat.zero_le _, Nat.zero_le _⟩ dX2_pullOf_59 (Nat.le_of_ble_eq_true rfl) (Nat.le_of_ble_eq_true rfl) (q := 62) rfl ?_
        refine v_int (y := zI (cZ_ th n sc u k)) (pu_z hu (by omega) (by omega) hsc.1 hsc.2) ?_
        refine v_aload_n F dX2_pullOf_62 (i := 0) rfl 1 rfl (q := 63) rfl ?_
        refine gt_X2_15 F dX2_pullOf_63 0 rfl rfl (q := 66) rfl ?_
        refine v_iload F dX2_pullOf_66 5 rfl (q := 68) rfl ?_
        refine v_ialdN F 2 0 rfl rfl (j := k) (by omega) (by decide) dX2_pullOf_68 (q := 69) rfl ?_
        refine v_imul F dX2_pullOf_69 (q := 70) rfl ?_
        refine v_iadd F dX2_pullOf_70 (q := 71) rfl ?_
        refine v_int (y := zI (cPU th sd n sc u (k + 1))) (pu_step) ?_
        refine v_istore_n F dX2_pullOf_71 (i := 2) (lv' := [(2, .int (zI (cPU th sd n sc u (k + 1)))), (5, .int (zI (if k + 1 = n then (u : Int) else min u (gB th (k + 1))))), (0, .ref g), (1, .int (nI u)), (3, .int (zI (gB th k))), (4, .int (nI k))]) rfl (Nat.le_of_ble_eq_true rfl) rfl (q := 72) rfl ?_
        refine v_iload_n F dX2_pullOf_72 (i := 3) rfl 4 rfl (q := 73) rfl ?_
        refine v_aload_n F dX2_pullOf_73 (i := 0) rfl 2 rfl (q := 74) rfl ?_
        refine gt_X2_9 F dX2_pullOf_74 0 rfl rfl (q := 77) rfl ?_
        refine v_iload F dX2_pullOf_77 5 rfl (q := 79) rfl ?_
        refine v_ialdN F 1 0 rfl rfl (j := k) (by omega) (by decide) dX2_pullOf_79 (q := 80) rfl ?_
        refine v_iadd F dX2_pullOf_80 (q := 81) rfl ?_
        refine v_int (y := zI (gB th (k + 1))) (gB_step) ?_
        refine v_istore_n F dX2_pullOf_81 (i := 3) (lv' := [(3, .int (zI (gB th (k + 1)))), (2, .int (zI (cPU th sd n sc u (k + 1)))), (5, .int (zI (if k + 1 = n then (u : Int) else min u (gB th (k + 1))))), (0, .ref g), (1, .int (nI u)), (4, .int (nI k))]) rfl (Nat.le_of_ble_eq_true rfl) rfl (q := 82) rfl ?_
        refine v_iinc F dX2_pullOf_82 5 rfl (v := nI (k + 1)) (lv' := [(4, .int (nI (k + 1))), (3, .int (zI (gB th (k + 1)))), (2, .int (zI (cPU th sd n sc u (k + 1)))), (5, .int (zI (if k + 1 = n then (u : Int) else min u (gB th (k + 1))))), (0, .ref g), (1, .int (nI u))]) (nI_1 k) (Nat.le_of_ble_eq_true rfl) rfl (q := 85) rfl ?_
        refine v_goto F dX2_pullOf_85 (tgt := 7) rfl ?_
        refine v_lv (lv' := [(0, .ref g), (1, .int (nI u)), (2, .int (zI (cPU th sd n sc u (k + 1)))), (3, .int (zI (gB th (k + 1)))), (4, .int (nI (k + 1)))]) [4, 5, 2, 1, 0] rfl ?_
        exact ih d (by omega) (k + 1) (by omega)
  refine v_iconst F dX2_pullOf_0 (v := 0) (q := 1) rfl rfl ?_
  refine v_istore_n F dX2_pullOf_1 (i := 2) (lv' := [(2, .int 0), (0, .ref g), (1, .int (nI u))]) rfl (Nat.le_of_ble_eq_true rfl) rfl (q := 2) rfl ?_
  refine v_iconst F dX2_pullOf_2 (v := 0) (q := 3) rfl rfl ?_
  refine v_istore_n F dX2_pullOf_3 (i := 3) (lv' := [(3, .int 0), (2, .int 0), (0, .ref g), (1, .int (nI u))]) rfl (Nat.le_of_ble_eq_true rfl) rfl (q := 4) rfl ?_
  refine v_iconst F dX2_pullOf_4 (v := 0) (q := 5) rfl rfl ?_
  refine v_istore F dX2_pullOf_5 (lv' := [(4, .int 0), (3, .int 0), (2, .int 0), (0, .ref g), (1, .int (nI u))]) (Nat.le_of_ble_eq_true rfl) rfl (q := 7) rfl ?_
  refine v_lv (lv' := [(0, .ref g), (1, .int (nI u)), (2, .int 0), (3, .int 0), (4, .int 0)]) [3, 4, 2, 1, 0] rfl ?_
  exact L7 n 0 (by omega)

set_option maxHeartbeats 4000000 in
set_option maxRecDepth 100000 in
theorem c_X2_bearingOf (g ga gb gc : Nat) (th sd tp : Nat → Int32) (n : Nat) (sc : Int32) (u : Nat) (G : GOK th sd tp n sc) (hu : u ≤ 1000) : Ct l D (TY cI cJ cZ) yX2_bearingOf cX2_bearingOf 2 (some .int) 2 45 0 0 [.ref g, .int (nI u)] [(g, .inr (2, [.ref ga, .ref gb, .ref gc, .int (nI n), .int sc])), (ga, .inl (cI, 6, .inl th)), (gb, .inl (cI, 6, .inl sd)), (gc, .inl (cI, 6, .inl tp))] (fun r w => r = some (.int (zI (gBE th sd tp n sc u))) ∧ w = [(g, .inr (2, [.ref ga, .ref gb, .ref gc, .int (nI n), .int sc])), (ga, .inl (cI, 6, .inl th)), (gb, .inl (cI, 6, .inl sd)), (gc, .inl (cI, 6, .inl tp))]) := by
  refine Ct.ofI (ty := .int) (by decide) (Nat.le_of_ble_eq_true rfl) ?_
  intro p e s m args below meth c A R Q F hnm hcs0 hE
  refine v_lv (lv' := [(0, .ref g), (1, .int (nI u))]) [0, 1] rfl ?_
  refine v_aload_n F dX2_bearingOf_0 (i := 0) rfl 0 rfl (q := 1) rfl ?_
  refine v_iload_n F dX2_bearingOf_1 (i := 1) rfl 1 rfl (q := 2) rfl ?_
  refine v_callV F ml_X2_41 im_X2_pullOf se_X2_pullOf in_X2 co_X2_pullOf sd_X2_pullOf (c_X2_pullOf g ga gb gc th sd tp n sc u G (by omega)) ⟨Nat.zero_le _, Nat.zero_le _⟩ (Nat.le_of_ble_eq_true rfl) (Nat.le_of_ble_eq_true rfl) 0 (As := [.int (nI u)]) rfl rfl rfl rfl rfl [0, 1, 2, 3] rfl rfl rfl (rest := []) rfl (Nat.le_of_ble_eq_true rfl) dX2_bearingOf_2 (q := 5) rfl (fun r w hr => ?_)
  obtain ⟨rfl, rfl⟩ := hr
  refine v_ws (ws' := [(g, .inr (2, [.ref ga, .ref gb, .ref gc, .int (nI n), .int sc])), (ga, .inl (cI, 6, .inl th)), (gb, .inl (cI, 6, .inl sd)), (gc, .inl (cI, 6, .inl tp))]) rfl ?_
  refine v_st (st' := [.int (zI (gPU th sd n sc u))]) rfl ?_
  refine v_aload_n F dX2_bearingOf_5 (i := 0) rfl 0 rfl (q := 6) rfl ?_
  refine v_iload_n F dX2_bearingOf_6 (i := 1) rfl 1 rfl (q := 7) rfl ?_
  refine v_callV F ml_X2_44 im_X2_tipBelow se_X2_tipBelow in_X2 co_X2_tipBelow sd_X2_tipBelow (c_X2_tipBelow g ga gb gc th sd tp n sc u G (by omega)) ⟨Nat.zero_le _, Nat.zero_le _⟩ (Nat.le_of_ble_eq_true rfl) (Nat.le_of_ble_eq_true rfl) 0 (As := [.int (nI u)]) rfl rfl rfl rfl rfl [0, 1, 2, 3] rfl rfl rfl (rest := [.int (zI (gPU th sd n sc u))]) rfl (Nat.le_of_ble_eq_true rfl) dX2_bearingOf_7 (q := 10) rfl (fun r w hr => ?_)
  obtain ⟨rfl, rfl⟩ := hr
  refine v_ws (ws' := [(g, .inr (2, [.ref ga, .ref gb, .ref gc, .int (nI n), .int sc])), (ga, .inl (cI, 6, .inl th)), (gb, .inl (cI, 6, .inl sd)), (gc, .inl (cI, 6, .inl tp))]) rfl ?_
  refine v_st (st' := [.int (zI (gTI th tp n u)), .int (zI (gPU th sd n sc u))]) rfl ?_
  refine v_iadd F dX2_bearingOf_10 (q := 11) rfl ?_
  exact hE rfl dX2_bearingOf_11 (Nat.zero_le _) (Nat.zero_le _) ⟨⟨by rw [zI_add]; rfl, rfl⟩, Nat.le_of_ble_eq_true rfl⟩

end GR
end
section
section LF
variable {l : Launch} {D : va_G} {cI cJ cZ : ClassId}
set_option maxHeartbeats 4000000 in
set_option maxRecDepth 100000 in
theorem c_X2_has (g ga gb gc : Nat) (th sd tp : Nat → Int32) (n : Nat) (sc : Int32) (p0 : Int32) (hn : n < 1000) : Ct l D (TY cI cJ cZ) yX2_has cX2_has 2 (some .boolean) 0 0 0 0 [.ref g, .int p0] [(g, .inr (2, [.ref ga, .ref gb, .ref gc, .int (nI n), .int sc])), (ga, .inl (cI, 6, .inl th)), (gb, .inl (cI, 6, .inl sd)), (gc, .inl (cI, 6, .inl tp))] (fun r w => r = some (.int (bI (hasB p0 n))) ∧ w = [(g, .inr (2, [.ref ga, .ref gb, .ref gc, .int (nI n), .int sc])), (ga, .inl (cI, 6, .inl th)), (gb, .inl (cI, 6, .inl sd)), (gc, .inl (cI, 6, .inl tp))]) := by
  refine Ct.ofI (ty := .boolean) (by decide) (Nat.le_of_ble_eq_true rfl) ?_
  intro p e s m args below meth c A R Q F hnm hcs0 hE
  refine v_lv (lv' := [(0, .ref g), (1, .int p0)]) [0, 1] rfl ?_
  refine v_iload_n F dX2_has_0 (i := 1) rfl 1 rfl (q := 1) rfl ?_
  refine v_if_lt F dX2_has_1 (tgt := 16) rfl (q := 4) rfl (fun c1 => ?_) (fun c1 => ?_)
  · skip
    refine v_iconst F dX2_has_16 (v := 0) (q := 17) rfl rfl ?_
    exact hE (by first | rfl | exact bI_nar _) dX2_has_17 (Nat.zero_le _) (Nat.zero_le _) ⟨⟨by first | rw [hasB_f1 c1] | rw [hasB_f2 hn c9], rfl⟩, Nat.le_of_ble_eq_true rfl⟩
  · skip
    refine v_iload_n F dX2_has_4 (i := 1) rfl 1 rfl (q := 5) rfl ?_
    refine v_aload_n F dX2_has_5 (i := 0) rfl 0 rfl (q := 6) rfl ?_
    refine gt_X2_21 F dX2_has_6 0 rfl rfl (q := 9) rfl ?_
    refine v_icmp_ge F dX2_has_9 (tgt := 16) rfl (q := 12) rfl (fun c9 => ?_) (fun c9 => ?_)
    · skip
      refine v_iconst F dX2_has_16 (v := 0) (q := 17) rfl rfl ?_
      exact hE (by first | rfl | exact bI_nar _) dX2_has_17 (Nat.zero_le _) (Nat.zero_le _) ⟨⟨by first | rw [hasB_f1 c1] | rw [hasB_f2 hn c9], rfl⟩, Nat.le_of_ble_eq_true rfl⟩
    · skip
      refine v_iconst F dX2_has_12 (v := 1) (q := 13) rfl rfl ?_
      refine v_goto F dX2_has_13 (tgt := 17) rfl ?_
      exact hE (by first | rfl | exact bI_nar _) dX2_has_17 (Nat.zero_le _) (Nat.zero_le _) ⟨⟨by rw [hasB_t hn c1 c9], rfl⟩, Nat.le_of_ble_eq_true rfl⟩

set_option maxHeartbeats 4000000 in
set_option maxRecDepth 100000 in
theorem c_X2_add (g ga gb gc : Nat) (th sd tp : Nat → Int32) (n : Nat) (sc : Int32) (t0 s0 p0 : Int32) (hn : n < 6) : Ct l D (TY cI cJ cZ) yX2_add cX2_add 4 (some .int) 0 0 0 0 [.ref g, .int t0, .int s0, .int p0] [(g, .inr (2, [.ref ga, .ref gb, .ref gc, .int (nI n), .int sc])), (ga, .inl (cI, 6, .inl th)), (gb, .inl (cI, 6, .inl sd)), (gc, .inl (cI, 6, .inl tp))] (fun r w => r = some (.int (nI n)) ∧ w = [(g, .inr (2, [.ref ga, .ref gb, .ref gc, .int (nI (n + 1)), .int sc])), (ga, .inl (cI, 6, .inl (upd th n t0))), (gb, .inl (cI, 6, .inl (upd sd n s0))), (gc, .inl (cI, 6, .inl (upd tp n p0)))]) := by
  refine Ct.ofI (ty := .int) (by decide) (Nat.le_of_ble_eq_true rfl) ?_
  intro p e s m args below meth c A R Q F hnm hcs0 hE
  refine v_lv (lv' := [(0, .ref g), (1, .int t0), (2, .int s0), (3, .int p0)]) [0, 1, 2, 3] rfl ?_
  refine v_aload_n F dX2_add_0 (i := 0) rfl 0 rfl (q := 1) rfl ?_
  refine gt_X2_9 F dX2_add_1 0 rfl rfl (q := 4) rfl ?_
  refine v_aload_n F dX2_add_4 (i := 0) rfl 0 rfl (q := 5) rfl ?_
  refine gt_X2_21 F dX2_add_5 0 rfl rfl (q := 8) rfl ?_
  refine v_iload_n F dX2_add_8 (i := 1) rfl 1 rfl (q := 9) rfl ?_
  refine v_iastN F 1 0 rfl rfl (j := n) (by omega) (by decide) dX2_add_9 (q := 10) rfl ?_
  refine v_ws (ws' := [(g, .inr (2, [.ref ga, .ref gb, .ref gc, .int (nI n), .int sc])), (ga, .inl (cI, 6, .inl (upd th n t0))), (gb, .inl (cI, 6, .inl sd)), (gc, .inl (cI, 6, .inl tp))]) rfl ?_
  refine v_aload_n F dX2_add_10 (i := 0) rfl 0 rfl (q := 11) rfl ?_
  refine gt_X2_15 F dX2_add_11 0 rfl rfl (q := 14) rfl ?_
  refine v_aload_n F dX2_add_14 (i := 0) rfl 0 rfl (q := 15) rfl ?_
  refine gt_X2_21 F dX2_add_15 0 rfl rfl (q := 18) rfl ?_
  refine v_iload_n F dX2_add_18 (i := 2) rfl 2 rfl (q := 19) rfl ?_
  refine v_iastN F 2 0 rfl rfl (j := n) (by omega) (by decide) dX2_add_19 (q := 20) rfl ?_
  refine v_ws (ws' := [(g, .inr (2, [.ref ga, .ref gb, .ref gc, .int (nI n), .int sc])), (ga, .inl (cI, 6, .inl (upd th n t0))), (gb, .inl (cI, 6, .inl (upd sd n s0))), (gc, .inl (cI, 6, .inl tp))]) rfl ?_
  refine v_aload_n F dX2_add_20 (i := 0) rfl 0 rfl (q := 21) rfl ?_
  refine gt_X2_18 F dX2_add_21 0 rfl rfl (q := 24) rfl ?_
  refine v_aload_n F dX2_add_24 (i := 0) rfl 0 rfl (q := 25) rfl ?_
  refine gt_X2_21 F dX2_add_25 0 rfl rfl (q := 28) rfl ?_
  refine v_iload_n F dX2_add_28 (i := 3) rfl 3 rfl (q := 29) rfl ?_
  refine v_iastN F 3 0 rfl rfl (j := n) (by omega) (by decide) dX2_add_29 (q := 30) rfl ?_
  refine v_ws (ws' := [(g, .inr (2, [.ref ga, .ref gb, .ref gc, .int (nI n), .int sc])), (ga, .inl (cI, 6, .inl (upd th n t0))), (gb, .inl (cI, 6, .inl (upd sd n s0))), (gc, .inl (cI, 6, .inl (upd tp n p0)))]) rfl ?_
  refine v_aload_n F dX2_add_30 (i := 0) rfl 0 rfl (q := 31) rfl ?_
  refine v_dup F dX2_add_31 rfl (q := 32) rfl ?_
  refine gt_X2_21 F dX2_add_32 0 rfl rfl (q := 35) rfl ?_
  refine v_iconst F dX2_add_35 (v := 1) (q := 36) rfl rfl ?_
  refine v_iadd F dX2_add_36 (q := 37) rfl ?_
  refine v_int (y := nI (n + 1)) (nI_1 n) ?_
  refine pt_X2_21 F dX2_add_37 0 rfl (Nat.le_of_ble_eq_true rfl) (q := 40) rfl ?_
  refine v_ws (ws' := [(g, .inr (2, [.ref ga, .ref gb, .ref gc, .int (nI (n + 1)), .int sc])), (ga, .inl (cI, 6, .inl (upd th n t0))), (gb, .inl (cI, 6, .inl (upd sd n s0))), (gc, .inl (cI, 6, .inl (upd tp n p0)))]) rfl ?_
  refine v_aload_n F dX2_add_40 (i := 0) rfl 0 rfl (q := 41) rfl ?_
  refine gt_X2_21 F dX2_add_41 0 rfl rfl (q := 44) rfl ?_
  refine v_iconst F dX2_add_44 (v := 1) (q := 45) rfl rfl ?_
  refine v_isub F dX2_add_45 (q := 46) rfl ?_
  refine v_int (y := nI n) (nI_pred n) ?_
  exact hE rfl dX2_add_46 (Nat.zero_le _) (Nat.zero_le _) ⟨⟨rfl, rfl⟩, Nat.le_of_ble_eq_true rfl⟩

set_option maxHeartbeats 4000000 in
set_option maxRecDepth 100000 in
theorem c_X2_setSide (g ga gb gc : Nat) (th sd tp : Nat → Int32) (n : Nat) (sc : Int32) (k : Nat) (v0 : Int32) (hk : k < 6) : Ct l D (TY cI cJ cZ) yX2_setSide cX2_setSide 4 (some .int) 0 0 0 0 [.ref g, .int (nI k), .int v0] [(g, .inr (2, [.ref ga, .ref gb, .ref gc, .int (nI n), .int sc])), (ga, .inl (cI, 6, .inl th)), (gb, .inl (cI, 6, .inl sd)), (gc, .inl (cI, 6, .inl tp))] (fun r w => r = some (.int (sd k)) ∧ w = [(g, .inr (2, [.ref ga, .ref gb, .ref gc, .int (nI n), .int sc])), (ga, .inl (cI, 6, .inl th)), (gb, .inl (cI, 6, .inl (upd sd k v0))), (gc, .inl (cI, 6, .inl tp))]) := by
  refine Ct.ofI (ty := .int) (by decide) (Nat.le_of_ble_eq_true rfl) ?_
  intro p e s m args below meth c A R Q F hnm hcs0 hE
  refine v_lv (lv' := [(0, .ref g), (1, .int (nI k)), (2, .int v0)]) [0, 1, 2] rfl ?_
  refine v_aload_n F dX2_setSide_0 (i := 0) rfl 0 rfl (q := 1) rfl ?_
  refine gt_X2_15 F dX2_setSide_1 0 rfl rfl (q := 4) rfl ?_
  refine v_iload_n F dX2_setSide_4 (i := 1) rfl 1 rfl (q := 5) rfl ?_
  refine v_ialdN F 2 0 rfl rfl (j := k) (by omega) (by decide) dX2_setSide_5 (q := 6) rfl ?_
  refine v_istore_n F dX2_setSide_6 (i := 3) (lv' := [(3, .int (sd k)), (0, .ref g), (1, .int (nI k)), (2, .int v0)]) rfl (Nat.le_of_ble_eq_true rfl) rfl (q := 7) rfl ?_
  refine v_aload_n F dX2_setSide_7 (i := 0) rfl 1 rfl (q := 8) rfl ?_
  refine gt_X2_15 F dX2_setSide_8 0 rfl rfl (q := 11) rfl ?_
  refine v_iload_n F dX2_setSide_11 (i := 1) rfl 2 rfl (q := 12) rfl ?_
  refine v_iload_n F dX2_setSide_12 (i := 2) rfl 3 rfl (q := 13) rfl ?_
  refine v_iastN F 2 0 rfl rfl (j := k) (by omega) (by decide) dX2_setSide_13 (q := 14) rfl ?_
  refine v_ws (ws' := [(g, .inr (2, [.ref ga, .ref gb, .ref gc, .int (nI n), .int sc])), (ga, .inl (cI, 6, .inl th)), (gb, .inl (cI, 6, .inl (upd sd k v0))), (gc, .inl (cI, 6, .inl tp))]) rfl ?_
  refine v_iload_n F dX2_setSide_14 (i := 3) rfl 0 rfl (q := 15) rfl ?_
  exact hE rfl dX2_setSide_15 (Nat.zero_le _) (Nat.zero_le _) ⟨⟨rfl, rfl⟩, Nat.le_of_ble_eq_true rfl⟩

set_option maxHeartbeats 4000000 in
set_option maxRecDepth 100000 in
theorem c_X2_setTip (g ga gb gc : Nat) (th sd tp : Nat → Int32) (n : Nat) (sc : Int32) (k : Nat) (v0 : Int32) (hk : k < 6) : Ct l D (TY cI cJ cZ) yX2_setTip cX2_setTip 4 (some .int) 0 0 0 0 [.ref g, .int (nI k), .int v0] [(g, .inr (2, [.ref ga, .ref gb, .ref gc, .int (nI n), .int sc])), (ga, .inl (cI, 6, .inl th)), (gb, .inl (cI, 6, .inl sd)), (gc, .inl (cI, 6, .inl tp))] (fun r w => r = some (.int (tp k)) ∧ w = [(g, .inr (2, [.ref ga, .ref gb, .ref gc, .int (nI n), .int sc])), (ga, .inl (cI, 6, .inl th)), (gb, .inl (cI, 6, .inl sd)), (gc, .inl (cI, 6, .inl (upd tp k v0)))]) := by
  refine Ct.ofI (ty := .int) (by decide) (Nat.le_of_ble_eq_true rfl) ?_
  intro p e s m args below meth c A R Q F hnm hcs0 hE
  refine v_lv (lv' := [(0, .ref g), (1, .int (nI k)), (2, .int v0)]) [0, 1, 2] rfl ?_
  refine v_aload_n F dX2_setTip_0 (i := 0) rfl 0 rfl (q := 1) rfl ?_
  refine gt_X2_18 F dX2_setTip_1 0 rfl rfl (q := 4) rfl ?_
  refine v_iload_n F dX2_setTip_4 (i := 1) rfl 1 rfl (q := 5) rfl ?_
  refine v_ialdN F 3 0 rfl rfl (j := k) (by omega) (by decide) dX2_setTip_5 (q := 6) rfl ?_
  refine v_istore_n F dX2_setTip_6 (i := 3) (lv' := [(3, .int (tp k)), (0, .ref g), (1, .int (nI k)), (2, .int v0)]) rfl (Nat.le_of_ble_eq_true rfl) rfl (q := 7) rfl ?_
  refine v_aload_n F dX2_setTip_7 (i := 0) rfl 1 rfl (q := 8) rfl ?_
  refine gt_X2_18 F dX2_setTip_8 0 rfl rfl (q := 11) rfl ?_
  refine v_iload_n F dX2_setTip_11 (i := 1) rfl 2 rfl (q := 12) rfl ?_
  refine v_iload_n F dX2_setTip_12 (i := 2) rfl 3 rfl (q := 13) rfl ?_
  refine v_iastN F 3 0 rfl rfl (j := k) (by omega) (by decide) dX2_setTip_13 (q := 14) rfl ?_
  refine v_ws (ws' := [(g, .inr (2, [.ref ga, .ref gb, .ref gc, .int (nI n), .int sc])), (ga, .inl (cI, 6, .inl th)), (gb, .inl (cI, 6, .inl sd)), (gc, .inl (cI, 6, .inl (upd tp k v0)))]) rfl ?_
  refine v_iload_n F dX2_setTip_14 (i := 3) rfl 0 rfl (q := 15) rfl ?_
  exact hE rfl dX2_setTip_15 (Nat.zero_le _) (Nat.zero_le _) ⟨⟨rfl, rfl⟩, Nat.le_of_ble_eq_true rfl⟩

set_option maxHeartbeats 4000000 in
set_option maxRecDepth 100000 in
theorem c_X2_setScour (g ga gb gc : Nat) (th sd tp : Nat → Int32) (n : Nat) (sc : Int32) (v0 : Int32)  : Ct l D (TY cI cJ cZ) yX2_setScour cX2_setScour 3 (some .int) 0 0 0 0 [.ref g, .int v0] [(g, .inr (2, [.ref ga, .ref gb, .ref gc, .int (nI n), .int sc])), (ga, .inl (cI, 6, .inl th)), (gb, .inl (cI, 6, .inl sd)), (gc, .inl (cI, 6, .inl tp))] (fun r w => r = some (.int sc) ∧ w = [(g, .inr (2, [.ref ga, .ref gb, .ref gc, .int (nI n), .int v0])), (ga, .inl (cI, 6, .inl th)), (gb, .inl (cI, 6, .inl sd)), (gc, .inl (cI, 6, .inl tp))]) := by
  refine Ct.ofI (ty := .int) (by decide) (Nat.le_of_ble_eq_true rfl) ?_
  intro p e s m args below meth c A R Q F hnm hcs0 hE
  refine v_lv (lv' := [(0, .ref g), (1, .int v0)]) [0, 1] rfl ?_
  refine v_aload_n F dX2_setScour_0 (i := 0) rfl 0 rfl (q := 1) rfl ?_
  refine gt_X2_25 F dX2_setScour_1 0 rfl rfl (q := 4) rfl ?_
  refine v_istore_n F dX2_setScour_4 (i := 2) (lv' := [(2, .int sc), (0, .ref g), (1, .int v0)]) rfl (Nat.le_of_ble_eq_true rfl) rfl (q := 5) rfl ?_
  refine v_aload_n F dX2_setScour_5 (i := 0) rfl 1 rfl (q := 6) rfl ?_
  refine v_iload_n F dX2_setScour_6 (i := 1) rfl 2 rfl (q := 7) rfl ?_
  refine pt_X2_25 F dX2_setScour_7 0 rfl (Nat.le_of_ble_eq_true rfl) (q := 10) rfl ?_
  refine v_ws (ws' := [(g, .inr (2, [.ref ga, .ref gb, .ref gc, .int (nI n), .int v0])), (ga, .inl (cI, 6, .inl th)), (gb, .inl (cI, 6, .inl sd)), (gc, .inl (cI, 6, .inl tp))]) rfl ?_
  refine v_iload_n F dX2_setScour_10 (i := 2) rfl 0 rfl (q := 11) rfl ?_
  exact hE rfl dX2_setScour_11 (Nat.zero_le _) (Nat.zero_le _) ⟨⟨rfl, rfl⟩, Nat.le_of_ble_eq_true rfl⟩

set_option maxHeartbeats 4000000 in
set_option maxRecDepth 100000 in
theorem c_X5_has (h ha hb hc hd : Nat) (px py : Nat → Int32) (pl : Nat → Nat) (pk : Nat → Int32) (N M : Nat) (p0 : Int32) (hn : N < 1000) : Ct l D (TY cI cJ cZ) yX5_has cX5_has 2 (some .boolean) 0 0 0 0 [.ref h, .int p0] [(h, .inr (5, [.ref ha, .ref hb, .ref hc, .ref hd, .int (nI M), .int (nI N)])), (ha, .inl (cI, 12, .inl px)), (hb, .inl (cI, 12, .inl py)), (hc, .inl (cI, 12, .inl (fun i => nI (pl i)))), (hd, .inl (cI, 12, .inl pk))] (fun r w => r = some (.int (bI (hasB p0 N))) ∧ w = [(h, .inr (5, [.ref ha, .ref hb, .ref hc, .ref hd, .int (nI M), .int (nI N)])), (ha, .inl (cI, 12, .inl px)), (hb, .inl (cI, 12, .inl py)), (hc, .inl (cI, 12, .inl (fun i => nI (pl i)))), (hd, .inl (cI, 12, .inl pk))]) := by
  refine Ct.ofI (ty := .boolean) (by decide) (Nat.le_of_ble_eq_true rfl) ?_
  intro p e s m args below meth c A R Q F hnm hcs0 hE
  refine v_lv (lv' := [(0, .ref h), (1, .int p0)]) [0, 1] rfl ?_
  refine v_iload_n F dX5_has_0 (i := 1) rfl 1 rfl (q := 1) rfl ?_
  refine v_if_lt F dX5_has_1 (tgt := 16) rfl (q := 4) rfl (fun c1 => ?_) (fun c1 => ?_)
  · skip
    refine v_iconst F dX5_has_16 (v := 0) (q := 17) rfl rfl ?_
    exact hE (by first | rfl | exact bI_nar _) dX5_has_17 (Nat.zero_le _) (Nat.zero_le _) ⟨⟨by first | rw [hasB_f1 c1] | rw [hasB_f2 hn c9], rfl⟩, Nat.le_of_ble_eq_true rfl⟩
  · skip
    refine v_iload_n F dX5_has_4 (i := 1) rfl 1 rfl (q := 5) rfl ?_
    refine v_aload_n F dX5_has_5 (i := 0) rfl 0 rfl (q := 6) rfl ?_
    refine gt_X5_28 F dX5_has_6 0 rfl rfl (q := 9) rfl ?_
    refine v_icmp_ge F dX5_has_9 (tgt := 16) rfl (q := 12) rfl (fun c9 => ?_) (fun c9 => ?_)
    · skip
      refine v_iconst F dX5_has_16 (v := 0) (q := 17) rfl rfl ?_
      exact hE (by first | rfl | exact bI_nar _) dX5_has_17 (Nat.zero_le _) (Nat.zero_le _) ⟨⟨by first | rw [hasB_f1 c1] | rw [hasB_f2 hn c9], rfl⟩, Nat.le_of_ble_eq_true rfl⟩
    · skip
      refine v_iconst F dX5_has_12 (v := 1) (q := 13) rfl rfl ?_
      refine v_goto F dX5_has_13 (tgt := 17) rfl ?_
      exact hE (by first | rfl | exact bI_nar _) dX5_has_17 (Nat.zero_le _) (Nat.zero_le _) ⟨⟨by rw [hasB_t hn c1 c9], rfl⟩, Nat.le_of_ble_eq_true rfl⟩

set_option maxHeartbeats 4000000 in
set_option maxRecDepth 100000 in
theorem c_X5_isWhole (h ha hb hc hd : Nat) (px py : Nat → Int32) (pl : Nat → Nat) (pk : Nat → Int32) (N M : Nat) (k : Nat) (hM : M < 4096) (hk : k < 12) : Ct l D (TY cI cJ cZ) yX5_isWhole cX5_isWhole 2 (some .boolean) 0 0 0 0 [.ref h, .int (nI k)] [(h, .inr (5, [.ref ha, .ref hb, .ref hc, .ref hd, .int (nI M), .int (nI N)])), (ha, .inl (cI, 12, .inl px)), (hb, .inl (cI, 12, .inl py)), (hc, .inl (cI, 12, .inl (fun i => nI (pl i)))), (hd, .inl (cI, 12, .inl pk))] (fun r w => r = some (.int (bI (M.testBit k))) ∧ w = [(h, .inr (5, [.ref ha, .ref hb, .ref hc, .ref hd, .int (nI M), .int (nI N)])), (ha, .inl (cI, 12, .inl px)), (hb, .inl (cI, 12, .inl py)), (hc, .inl (cI, 12, .inl (fun i => nI (pl i)))), (hd, .inl (cI, 12, .inl pk))]) := by
  refine Ct.ofI (ty := .boolean) (by decide) (Nat.le_of_ble_eq_true rfl) ?_
  intro p e s m args below meth c A R Q F hnm hcs0 hE
  refine v_lv (lv' := [(0, .ref h), (1, .int (nI k))]) [0, 1] rfl ?_
  refine v_aload_n F dX5_isWhole_0 (i := 0) rfl 0 rfl (q := 1) rfl ?_
  refine gt_X5_24 F dX5_isWhole_1 0 rfl rfl (q := 4) rfl ?_
  refine v_iload_n F dX5_isWhole_4 (i := 1) rfl 1 rfl (q := 5) rfl ?_
  refine v_ishr F dX5_isWhole_5 (q := 6) rfl ?_
  refine v_iconst F dX5_isWhole_6 (v := 1) (q := 7) rfl rfl ?_
  refine v_iand F dX5_isWhole_7 (q := 8) rfl ?_
  refine v_int (y := bI (M.testBit k)) (sh_bit hM (by omega)) ?_
  refine v_if_eq F dX5_isWhole_8 (tgt := 15) rfl (q := 11) rfl (fun c8 => ?_) (fun c8 => ?_)
  · skip
    refine v_iconst F dX5_isWhole_15 (v := 0) (q := 16) rfl rfl ?_
    exact hE rfl dX5_isWhole_16 (Nat.zero_le _) (Nat.zero_le _) ⟨⟨by rw [c8], rfl⟩, Nat.le_of_ble_eq_true rfl⟩
  · skip
    refine v_iconst F dX5_isWhole_11 (v := 1) (q := 12) rfl rfl ?_
    refine v_goto F dX5_isWhole_12 (tgt := 16) rfl ?_
    exact hE rfl dX5_isWhole_16 (Nat.zero_le _) (Nat.zero_le _) ⟨⟨by rw [bI_o.mpr (bI_nz.mp c8)], rfl⟩, Nat.le_of_ble_eq_true rfl⟩

set_option maxHeartbeats 4000000 in
set_option maxRecDepth 100000 in
theorem c_X5_place (h ha hb hc hd : Nat) (px py : Nat → Int32) (pl : Nat → Nat) (pk : Nat → Int32) (N M : Nat) (k : Nat) (x0 y0 : Int32) (hk : k < 12) : Ct l D (TY cI cJ cZ) yX5_place cX5_place 4 none 0 0 0 0 [.ref h, .int (nI k), .int x0, .int y0] [(h, .inr (5, [.ref ha, .ref hb, .ref hc, .ref hd, .int (nI M), .int (nI N)])), (ha, .inl (cI, 12, .inl px)), (hb, .inl (cI, 12, .inl py)), (hc, .inl (cI, 12, .inl (fun i => nI (pl i)))), (hd, .inl (cI, 12, .inl pk))] (fun r w => r = none ∧ w = [(h, .inr (5, [.ref ha, .ref hb, .ref hc, .ref hd, .int (nI M), .int (nI N)])), (ha, .inl (cI, 12, .inl (upd px k x0))), (hb, .inl (cI, 12, .inl (upd py k y0))), (hc, .inl (cI, 12, .inl (fun i => nI (pl i)))), (hd, .inl (cI, 12, .inl pk))]) := by
  refine Ct.ofV (by decide) (Nat.le_of_ble_eq_true rfl) ?_
  intro p e s m args below meth c A R Q F hnm hcs0 hE
  refine v_lv (lv' := [(0, .ref h), (1, .int (nI k)), (2, .int x0), (3, .int y0)]) [0, 1, 2, 3] rfl ?_
  refine v_aload_n F dX5_place_0 (i := 0) rfl 0 rfl (q := 1) rfl ?_
  refine gt_X5_9 F dX5_place_1 0 rfl rfl (q := 4) rfl ?_
  refine v_iload_n F dX5_place_4 (i := 1) rfl 1 rfl (q := 5) rfl ?_
  refine v_iload_n F dX5_place_5 (i := 2) rfl 2 rfl (q := 6) rfl ?_
  refine v_iastN F 1 0 rfl rfl (j := k) (by omega) (by decide) dX5_place_6 (q := 7) rfl ?_
  refine v_ws (ws' := [(h, .inr (5, [.ref ha, .ref hb, .ref hc, .ref hd, .int (nI M), .int (nI N)])), (ha, .inl (cI, 12, .inl (upd px k x0))), (hb, .inl (cI, 12, .inl py)), (hc, .inl (cI, 12, .inl (fun i => nI (pl i)))), (hd, .inl (cI, 12, .inl pk))]) rfl ?_
  refine v_aload_n F dX5_place_7 (i := 0) rfl 0 rfl (q := 8) rfl ?_
  refine gt_X5_15 F dX5_place_8 0 rfl rfl (q := 11) rfl ?_
  refine v_iload_n F dX5_place_11 (i := 1) rfl 1 rfl (q := 12) rfl ?_
  refine v_iload_n F dX5_place_12 (i := 3) rfl 3 rfl (q := 13) rfl ?_
  refine v_iastN F 2 0 rfl rfl (j := k) (by omega) (by decide) dX5_place_13 (q := 14) rfl ?_
  refine v_ws (ws' := [(h, .inr (5, [.ref ha, .ref hb, .ref hc, .ref hd, .int (nI M), .int (nI N)])), (ha, .inl (cI, 12, .inl (upd px k x0))), (hb, .inl (cI, 12, .inl (upd py k y0))), (hc, .inl (cI, 12, .inl (fun i => nI (pl i)))), (hd, .inl (cI, 12, .inl pk))]) rfl ?_
  exact hE dX5_place_14 (Nat.zero_le _) (Nat.zero_le _) ⟨⟨rfl, rfl⟩, Nat.le_of_ble_eq_true rfl⟩

set_option maxHeartbeats 4000000 in
set_option maxRecDepth 100000 in
theorem c_X5_setWhole (h ha hb hc hd : Nat) (px py : Nat → Int32) (pl : Nat → Nat) (pk : Nat → Int32) (N M : Nat) (k : Nat) (v : Bool) (hM : M < 4096) (hk : k < 12) : Ct l D (TY cI cJ cZ) yX5_setWhole cX5_setWhole 3 none 0 0 0 0 [.ref h, .int (nI k), .int (bI v)] [(h, .inr (5, [.ref ha, .ref hb, .ref hc, .ref hd, .int (nI M), .int (nI N)])), (ha, .inl (cI, 12, .inl px)), (hb, .inl (cI, 12, .inl py)), (hc, .inl (cI, 12, .inl (fun i => nI (pl i)))), (hd, .inl (cI, 12, .inl pk))] (fun r w => r = none ∧ w = [(h, .inr (5, [.ref ha, .ref hb, .ref hc, .ref hd, .int (nI (mset M k v)), .int (nI N)])), (ha, .inl (cI, 12, .inl px)), (hb, .inl (cI, 12, .inl py)), (hc, .inl (cI, 12, .inl (fun i => nI (pl i)))), (hd, .inl (cI, 12, .inl pk))]) := by
  refine Ct.ofV (by decide) (Nat.le_of_ble_eq_true rfl) ?_
  intro p e s m args below meth c A R Q F hnm hcs0 hE
  refine v_lv (lv' := [(0, .ref h), (1, .int (nI k)), (2, .int (bI v))]) [0, 1, 2] rfl ?_
  refine v_aload_n F dX5_setWhole_0 (i := 0) rfl 0 rfl (q := 1) rfl ?_
  refine v_iload_n F dX5_setWhole_1 (i := 2) rfl 2 rfl (q := 2) rfl ?_
  refine v_if_eq F dX5_setWhole_2 (tgt := 16) rfl (q := 5) rfl (fun c2 => ?_) (fun c2 => ?_)
  · skip
    rw [bI_z] at c2
    subst c2
    refine v_aload_n F dX5_setWhole_16 (i := 0) rfl 0 rfl (q := 17) rfl ?_
    refine gt_X5_24 F dX5_setWhole_17 0 rfl rfl (q := 20) rfl ?_
    refine v_iconst F dX5_setWhole_20 (v := 1) (q := 21) rfl rfl ?_
    refine v_iload_n F dX5_setWhole_21 (i := 1) rfl 1 rfl (q := 22) rfl ?_
    refine v_ishl F dX5_setWhole_22 (q := 23) rfl ?_
    refine v_iconst F dX5_setWhole_23 (v := (-1)) (q := 24) rfl rfl ?_
    refine v_ixor F dX5_setWhole_24 (q := 25) rfl ?_
    refine v_iand F dX5_setWhole_25 (q := 26) rfl ?_
    refine v_int (y := nI (mset M k false)) (ms_clr hM hk) ?_
    refine pt_X5_24 F dX5_setWhole_26 0 rfl (Nat.le_of_ble_eq_true rfl) (q := 29) rfl ?_
    refine v_ws (ws' := [(h, .inr (5, [.ref ha, .ref hb, .ref hc, .ref hd, .int (nI (mset M k false)), .int (nI N)])), (ha, .inl (cI, 12, .inl px)), (hb, .inl (cI, 12, .inl py)), (hc, .inl (cI, 12, .inl (fun i => nI (pl i)))), (hd, .inl (cI, 12, .inl pk))]) rfl ?_
    exact hE dX5_setWhole_29 (Nat.zero_le _) (Nat.zero_le _) ⟨⟨rfl, rfl⟩, Nat.le_of_ble_eq_true rfl⟩
  · skip
    rw [bI_nz] at c2
    subst c2
    refine v_aload_n F dX5_setWhole_5 (i := 0) rfl 0 rfl (q := 6) rfl ?_
    refine gt_X5_24 F dX5_setWhole_6 0 rfl rfl (q := 9) rfl ?_
    refine v_iconst F dX5_setWhole_9 (v := 1) (q := 10) rfl rfl ?_
    refine v_iload_n F dX5_setWhole_10 (i := 1) rfl 1 rfl (q := 11) rfl ?_
    refine v_ishl F dX5_setWhole_11 (q := 12) rfl ?_
    refine v_ior F dX5_setWhole_12 (q := 13) rfl ?_
    refine v_goto F dX5_setWhole_13 (tgt := 26) rfl ?_
    refine v_int (y := nI (mset M k true)) (ms_or hk) ?_
    refine pt_X5_24 F dX5_setWhole_26 0 rfl (Nat.le_of_ble_eq_true rfl) (q := 29) rfl ?_
    refine v_ws (ws' := [(h, .inr (5, [.ref ha, .ref hb, .ref hc, .ref hd, .int (nI (mset M k true)), .int (nI N)])), (ha, .inl (cI, 12, .inl px)), (hb, .inl (cI, 12, .inl py)), (hc, .inl (cI, 12, .inl (fun i => nI (pl i)))), (hd, .inl (cI, 12, .inl pk))]) rfl ?_
    exact hE dX5_setWhole_29 (Nat.zero_le _) (Nat.zero_le _) ⟨⟨rfl, rfl⟩, Nat.le_of_ble_eq_true rfl⟩

set_option maxHeartbeats 4000000 in
set_option maxRecDepth 100000 in
theorem c_X5_add (h ha hb hc hd : Nat) (px py : Nat → Int32) (pl : Nat → Nat) (pk : Nat → Int32) (N M : Nat) (x0 y0 : Int32) (L0 : Nat) (k0 : Int32) (hM : M < 4096) (hN : N < 12) : Ct l D (TY cI cJ cZ) yX5_add cX5_add 6 (some .int) 1 23 0 0 [.ref h, .int x0, .int y0, .int (nI L0), .int k0] [(h, .inr (5, [.ref ha, .ref hb, .ref hc, .ref hd, .int (nI M), .int (nI N)])), (ha, .inl (cI, 12, .inl px)), (hb, .inl (cI, 12, .inl py)), (hc, .inl (cI, 12, .inl (fun i => nI (pl i)))), (hd, .inl (cI, 12, .inl pk))] (fun r w => r = some (.int (nI N)) ∧ w = [(h, .inr (5, [.ref ha, .ref hb, .ref hc, .ref hd, .int (nI (mset M N true)), .int (nI (N + 1))])), (ha, .inl (cI, 12, .inl (upd px N x0))), (hb, .inl (cI, 12, .inl (upd py N y0))), (hc, .inl (cI, 12, .inl (fun i => nI (updN pl N L0 i)))), (hd, .inl (cI, 12, .inl (upd pk N k0)))]) := by
  refine Ct.ofI (ty := .int) (by decide) (Nat.le_of_ble_eq_true rfl) ?_
  intro p e s m args below meth c A R Q F hnm hcs0 hE
  refine v_lv (lv' := [(0, .ref h), (1, .int x0), (2, .int y0), (3, .int (nI L0)), (4, .int k0)]) [0, 1, 2, 3, 4] rfl ?_
  refine v_aload_n F dX5_add_0 (i := 0) rfl 0 rfl (q := 1) rfl ?_
  refine gt_X5_28 F dX5_add_1 0 rfl rfl (q := 4) rfl ?_
  refine v_istore F dX5_add_4 (lv' := [(5, .int (nI N)), (0, .ref h), (1, .int x0), (2, .int y0), (3, .int (nI L0)), (4, .int k0)]) (Nat.le_of_ble_eq_true rfl) rfl (q := 6) rfl ?_
  refine v_aload_n F dX5_add_6 (i := 0) rfl 1 rfl (q := 7) rfl ?_
  refine v_iload F dX5_add_7 0 rfl (q := 9) rfl ?_
  refine v_iload_n F dX5_add_9 (i := 1) rfl 2 rfl (q := 10) rfl ?_
  refine v_iload_n F dX5_add_10 (i := 2) rfl 3 rfl (q := 11) rfl ?_
  refine v_callV F ml_X5_31 im_X5_place se_X5_place in_X5 co_X5_place sd_X5_place (c_X5_place h ha hb hc hd px py pl pk N M N x0 y0 (by omega)) ⟨Nat.zero_le _, Nat.zero_le _⟩ (Nat.le_of_ble_eq_true rfl) (Nat.le_of_ble_eq_true rfl) 0 (As := [.int (nI N), .int x0, .int y0]) rfl rfl rfl rfl rfl [0, 1, 2, 3, 4] rfl rfl rfl (rest := []) rfl (Nat.le_of_ble_eq_true rfl) dX5_add_11 (q := 14) rfl (fun r w hr => ?_)
  obtain ⟨rfl, rfl⟩ := hr
  refine v_ws (ws' := [(h, .inr (5, [.ref ha, .ref hb, .ref hc, .ref hd, .int (nI M), .int (nI N)])), (ha, .inl (cI, 12, .inl (upd px N x0))), (hb, .inl (cI, 12, .inl (upd py N y0))), (hc, .inl (cI, 12, .inl (fun i => nI (pl i)))), (hd, .inl (cI, 12, .inl pk))]) rfl ?_
  refine v_st (st' := []) rfl ?_
  refine v_aload_n F dX5_add_14 (i := 0) rfl 1 rfl (q := 15) rfl ?_
  refine gt_X5_18 F dX5_add_15 0 rfl rfl (q := 18) rfl ?_
  refine v_iload F dX5_add_18 0 rfl (q := 20) rfl ?_
  refine v_iload_n F dX5_add_20 (i := 3) rfl 4 rfl (q := 21) rfl ?_
  refine v_iastN F 3 0 rfl rfl (j := N) (by omega) (by decide) dX5_add_21 (q := 22) rfl ?_
  refine v_ws (ws' := [(h, .inr (5, [.ref ha, .ref hb, .ref hc, .ref hd, .int (nI M), .int (nI N)])), (ha, .inl (cI, 12, .inl (upd px N x0))), (hb, .inl (cI, 12, .inl (upd py N y0))), (hc, .inl (cI, 12, .inl (upd (fun i => nI (pl i)) N (nI L0)))), (hd, .inl (cI, 12, .inl pk))]) rfl ?_
  refine v_ws (ws' := [(h, .inr (5, [.ref ha, .ref hb, .ref hc, .ref hd, .int (nI M), .int (nI N)])), (ha, .inl (cI, 12, .inl (upd px N x0))), (hb, .inl (cI, 12, .inl (upd py N y0))), (hc, .inl (cI, 12, .inl (fun i => nI (updN pl N L0 i)))), (hd, .inl (cI, 12, .inl pk))]) (by rw [upd_nI]) ?_
  refine v_aload_n F dX5_add_22 (i := 0) rfl 1 rfl (q := 23) rfl ?_
  refine gt_X5_21 F dX5_add_23 0 rfl rfl (q := 26) rfl ?_
  refine v_iload F dX5_add_26 0 rfl (q := 28) rfl ?_
  refine v_iload F dX5_add_28 5 rfl (q := 30) rfl ?_
  refine v_iastN F 4 0 rfl rfl (j := N) (by omega) (by decide) dX5_add_30 (q := 31) rfl ?_
  refine v_ws (ws' := [(h, .inr (5, [.ref ha, .ref hb, .ref hc, .ref hd, .int (nI M), .int (nI N)])), (ha, .inl (cI, 12, .inl (upd px N x0))), (hb, .inl (cI, 12, .inl (upd py N y0))), (hc, .inl (cI, 12, .inl (fun i => nI (updN pl N L0 i)))), (hd, .inl (cI, 12, .inl (upd pk N k0)))]) rfl ?_
  refine v_aload_n F dX5_add_31 (i := 0) rfl 1 rfl (q := 32) rfl ?_
  refine v_iload F dX5_add_32 0 rfl (q := 34) rfl ?_
  refine v_iconst F dX5_add_34 (v := 1) (q := 35) rfl rfl ?_
  refine v_callV F ml_X5_35 im_X5_setWhole se_X5_setWhole in_X5 co_X5_setWhole sd_X5_setWhole (c_X5_setWhole h ha hb hc hd (upd px N x0) (upd py N y0) (updN pl N L0) (upd pk N k0) N M N true (by omega) (by omega)) ⟨Nat.zero_le _, Nat.zero_le _⟩ (Nat.le_of_ble_eq_true rfl) (Nat.le_of_ble_eq_true rfl) 0 (As := [.int (nI N), .int 1]) rfl rfl rfl rfl rfl [0, 1, 2, 3, 4] rfl rfl rfl (rest := []) rfl (Nat.le_of_ble_eq_true rfl) dX5_add_35 (q := 38) rfl (fun r w hr => ?_)
  obtain ⟨rfl, rfl⟩ := hr
  refine v_ws (ws' := [(h, .inr (5, [.ref ha, .ref hb, .ref hc, .ref hd, .int (nI (mset M N true)), .int (nI N)])), (ha, .inl (cI, 12, .inl (upd px N x0))), (hb, .inl (cI, 12, .inl (upd py N y0))), (hc, .inl (cI, 12, .inl (fun i => nI (updN pl N L0 i)))), (hd, .inl (cI, 12, .inl (upd pk N k0)))]) rfl ?_
  refine v_st (st' := []) rfl ?_
  refine v_aload_n F dX5_add_38 (i := 0) rfl 1 rfl (q := 39) rfl ?_
  refine v_dup F dX5_add_39 rfl (q := 40) rfl ?_
  refine gt_X5_28 F dX5_add_40 0 rfl rfl (q := 43) rfl ?_
  refine v_iconst F dX5_add_43 (v := 1) (q := 44) rfl rfl ?_
  refine v_iadd F dX5_add_44 (q := 45) rfl ?_
  refine v_int (y := nI (N + 1)) (nI_1 N) ?_
  refine pt_X5_28 F dX5_add_45 0 rfl (Nat.le_of_ble_eq_true rfl) (q := 48) rfl ?_
  refine v_ws (ws' := [(h, .inr (5, [.ref ha, .ref hb, .ref hc, .ref hd, .int (nI (mset M N true)), .int (nI (N + 1))])), (ha, .inl (cI, 12, .inl (upd px N x0))), (hb, .inl (cI, 12, .inl (upd py N y0))), (hc, .inl (cI, 12, .inl (fun i => nI (updN pl N L0 i)))), (hd, .inl (cI, 12, .inl (upd pk N k0)))]) rfl ?_
  refine v_iload F dX5_add_48 0 rfl (q := 50) rfl ?_
  exact hE rfl dX5_add_50 (Nat.zero_le _) (Nat.zero_le _) ⟨⟨rfl, rfl⟩, Nat.le_of_ble_eq_true rfl⟩

set_option maxHeartbeats 4000000 in
set_option maxRecDepth 100000 in
theorem c_X4_add (o oa ob oc od : Nat) (ls : Nat → Nat) (fo tx ty : Nat → Int) (k : Nat) (v0 x0 y0 : Int32) (hk : k < 3) (hv : -500 ≤ v0.toInt ∧ v0.toInt ≤ 500) (hx : -20 ≤ x0.toInt ∧ x0.toInt ≤ 20) (hy : -20 ≤ y0.toInt ∧ y0.toInt ≤ 20) : Ct l D (TY cI cJ cZ) yX4_add cX4_add 5 (some .int) 0 0 0 0 [.ref o, .int (nI k), .int v0, .int x0, .int y0] [(o, .inr (4, [.ref oa, .ref ob, .ref oc, .ref od])), (oa, .inl (cI, 3, .inl (fun i => nI (ls i)))), (ob, .inl (cJ, 3, .inr (.inl (fun i => zL (fo i))))), (oc, .inl (cJ, 3, .inr (.inl (fun i => zL (tx i))))), (od, .inl (cJ, 3, .inr (.inl (fun i => zL (ty i)))))] (fun r w => r = some (.int (nI (ls k + 1))) ∧ w = [(o, .inr (4, [.ref oa, .ref ob, .ref oc, .ref od])), (oa, .inl (cI, 3, .inl (fun i => nI (updN ls k (ls k + 1) i)))), (ob, .inl (cJ, 3, .inr (.inl (fun i => zL (updZ fo k (fo k + v0.toInt) i))))), (oc, .inl (cJ, 3, .inr (.inl (fun i => zL (updZ tx k (tx k + v0.toInt * x0.toInt) i))))), (od, .inl (cJ, 3, .inr (.inl (fun i => zL (updZ ty k (ty k + v0.toInt * y0.toInt) i)))))]) := by
  refine Ct.ofI (ty := .int) (by decide) (Nat.le_of_ble_eq_true rfl) ?_
  intro p e s m args below meth c A R Q F hnm hcs0 hE
  refine v_lv (lv' := [(0, .ref o), (1, .int (nI k)), (2, .int v0), (3, .int x0), (4, .int y0)]) [0, 1, 2, 3, 4] rfl ?_
  refine v_aload_n F dX4_add_0 (i := 0) rfl 0 rfl (q := 1) rfl ?_
  refine gt_X4_15 F dX4_add_1 0 rfl rfl (q := 4) rfl ?_
  refine v_iload_n F dX4_add_4 (i := 1) rfl 1 rfl (q := 5) rfl ?_
  refine v_dup2_11 F dX4_add_5 rfl rfl (q := 6) rfl ?_
  refine v_laldN F 2 1 rfl rfl (j := k) (by omega) (by decide) dX4_add_6 (q := 7) rfl ?_
  refine v_st (st' := [.long (zL (fo k)), .int (nI k), .ref ob]) rfl ?_
  refine v_iload_n F dX4_add_7 (i := 2) rfl 2 rfl (q := 8) rfl ?_
  refine v_i2l F dX4_add_8 (q := 9) rfl ?_
  refine v_ladd F dX4_add_9 (q := 10) rfl ?_
  refine v_long (y := zL (fo k + v0.toInt)) (st_0) ?_
  refine v_lastN F 2 1 rfl rfl (j := k) (by omega) (by decide) dX4_add_10 (q := 11) rfl ?_
  refine v_ws (ws' := [(o, .inr (4, [.ref oa, .ref ob, .ref oc, .ref od])), (oa, .inl (cI, 3, .inl (fun i => nI (ls i)))), (ob, .inl (cJ, 3, .inr (.inl (vp_updL (fun i => zL (fo i)) k (zL (fo k + v0.toInt)))))), (oc, .inl (cJ, 3, .inr (.inl (fun i => zL (tx i))))), (od, .inl (cJ, 3, .inr (.inl (fun i => zL (ty i)))))]) rfl ?_
  refine v_aload_n F dX4_add_11 (i := 0) rfl 0 rfl (q := 12) rfl ?_
  refine gt_X4_19 F dX4_add_12 0 rfl rfl (q := 15) rfl ?_
  refine v_iload_n F dX4_add_15 (i := 1) rfl 1 rfl (q := 16) rfl ?_
  refine v_dup2_11 F dX4_add_16 rfl rfl (q := 17) rfl ?_
  refine v_laldN F 3 1 rfl rfl (j := k) (by omega) (by decide) dX4_add_17 (q := 18) rfl ?_
  refine v_st (st' := [.long (zL (tx k)), .int (nI k), .ref oc]) rfl ?_
  refine v_iload_n F dX4_add_18 (i := 2) rfl 2 rfl (q := 19) rfl ?_
  refine v_iload_n F dX4_add_19 (i := 3) rfl 3 rfl (q := 20) rfl ?_
  refine v_imul F dX4_add_20 (q := 21) rfl ?_
  refine v_i2l F dX4_add_21 (q := 22) rfl ?_
  refine v_ladd F dX4_add_22 (q := 23) rfl ?_
  refine v_long (y := zL (tx k + v0.toInt * x0.toInt)) (by rw [(i2l_mul hv hx (by omega)).1, zL_add]) ?_
  refine v_lastN F 3 1 rfl rfl (j := k) (by omega) (by decide) dX4_add_23 (q := 24) rfl ?_
  refine v_ws (ws' := [(o, .inr (4, [.ref oa, .ref ob, .ref oc, .ref od])), (oa, .inl (cI, 3, .inl (fun i => nI (ls i)))), (ob, .inl (cJ, 3, .inr (.inl (vp_updL (fun i => zL (fo i)) k (zL (fo k + v0.toInt)))))), (oc, .inl (cJ, 3, .inr (.inl (vp_updL (fun i => zL (tx i)) k (zL (tx k + v0.toInt * x0.toInt)))))), (od, .inl (cJ, 3, .inr (.inl (fun i => zL (ty i)))))]) rfl ?_
  refine v_aload_n F dX4_add_24 (i := 0) rfl 0 rfl (q := 25) rfl ?_
  refine gt_X4_22 F dX4_add_25 0 rfl rfl (q := 28) rfl ?_
  refine v_iload_n F dX4_add_28 (i := 1) rfl 1 rfl (q := 29) rfl ?_
  refine v_dup2_11 F dX4_add_29 rfl rfl (q := 30) rfl ?_
  refine v_laldN F 4 1 rfl rfl (j := k) (by omega) (by decide) dX4_add_30 (q := 31) rfl ?_
  refine v_st (st' := [.long (zL (ty k)), .int (nI k), .ref od]) rfl ?_
  refine v_iload_n F dX4_add_31 (i := 2) rfl 2 rfl (q := 32) rfl ?_
  refine v_iload F dX4_add_32 4 rfl (q := 34) rfl ?_
  refine v_imul F dX4_add_34 (q := 35) rfl ?_
  refine v_i2l F dX4_add_35 (q := 36) rfl ?_
  refine v_ladd F dX4_add_36 (q := 37) rfl ?_
  refine v_long (y := zL (ty k + v0.toInt * y0.toInt)) (by rw [(i2l_mul hv hy (by omega)).1, zL_add]) ?_
  refine v_lastN F 4 1 rfl rfl (j := k) (by omega) (by decide) dX4_add_37 (q := 38) rfl ?_
  refine v_ws (ws' := [(o, .inr (4, [.ref oa, .ref ob, .ref oc, .ref od])), (oa, .inl (cI, 3, .inl (fun i => nI (ls i)))), (ob, .inl (cJ, 3, .inr (.inl (vp_updL (fun i => zL (fo i)) k (zL (fo k + v0.toInt)))))), (oc, .inl (cJ, 3, .inr (.inl (vp_updL (fun i => zL (tx i)) k (zL (tx k + v0.toInt * x0.toInt)))))), (od, .inl (cJ, 3, .inr (.inl (vp_updL (fun i => zL (ty i)) k (zL (ty k + v0.toInt * y0.toInt))))))]) rfl ?_
  refine v_aload_n F dX4_add_38 (i := 0) rfl 0 rfl (q := 39) rfl ?_
  refine gt_X4_9 F dX4_add_39 0 rfl rfl (q := 42) rfl ?_
  refine v_iload_n F dX4_add_42 (i := 1) rfl 1 rfl (q := 43) rfl ?_
  refine v_dup2_11 F dX4_add_43 rfl rfl (q := 44) rfl ?_
  refine v_ialdN F 1 0 rfl rfl (j := k) (by omega) (by decide) dX4_add_44 (q := 45) rfl ?_
  refine v_st (st' := [.int (nI (ls k)), .int (nI k), .ref oa]) rfl ?_
  refine v_iconst F dX4_add_45 (v := 1) (q := 46) rfl rfl ?_
  refine v_iadd F dX4_add_46 (q := 47) rfl ?_
  refine v_int (y := nI (ls k + 1)) (nI_1 _) ?_
  refine v_iastN F 1 0 rfl rfl (j := k) (by omega) (by decide) dX4_add_47 (q := 48) rfl ?_
  refine v_ws (ws' := [(o, .inr (4, [.ref oa, .ref ob, .ref oc, .ref od])), (oa, .inl (cI, 3, .inl (upd (fun i => nI (ls i)) k (nI (ls k + 1))))), (ob, .inl (cJ, 3, .inr (.inl (vp_updL (fun i => zL (fo i)) k (zL (fo k + v0.toInt)))))), (oc, .inl (cJ, 3, .inr (.inl (vp_updL (fun i => zL (tx i)) k (zL (tx k + v0.toInt * x0.toInt)))))), (od, .inl (cJ, 3, .inr (.inl (vp_updL (fun i => zL (ty i)) k (zL (ty k + v0.toInt * y0.toInt))))))]) rfl ?_
  refine v_aload_n F dX4_add_48 (i := 0) rfl 0 rfl (q := 49) rfl ?_
  refine gt_X4_9 F dX4_add_49 0 rfl rfl (q := 52) rfl ?_
  refine v_iload_n F dX4_add_52 (i := 1) rfl 1 rfl (q := 53) rfl ?_
  refine v_ialdN F 1 0 rfl rfl (j := k) (by omega) (by decide) dX4_add_53 (q := 54) rfl ?_
  refine v_int (y := nI (ls k + 1)) (pk_us) ?_
  exact hE rfl dX4_add_54 (Nat.zero_le _) (Nat.zero_le _) ⟨⟨rfl, by rw [← upd_nI, ← upd_zL, ← upd_zL, ← upd_zL]⟩, Nat.le_of_ble_eq_true rfl⟩

set_option maxHeartbeats 4000000 in
set_option maxRecDepth 100000 in
theorem c_X4_clear (o oa ob oc od : Nat) (ls : Nat → Nat) (fo tx ty : Nat → Int) (k : Nat) (hk : k < 3) : Ct l D (TY cI cJ cZ) yX4_clear cX4_clear 3 (some .int) 0 0 0 0 [.ref o, .int (nI k)] [(o, .inr (4, [.ref oa, .ref ob, .ref oc, .ref od])), (oa, .inl (cI, 3, .inl (fun i => nI (ls i)))), (ob, .inl (cJ, 3, .inr (.inl (fun i => zL (fo i))))), (oc, .inl (cJ, 3, .inr (.inl (fun i => zL (tx i))))), (od, .inl (cJ, 3, .inr (.inl (fun i => zL (ty i)))))] (fun r w => r = some (.int (nI (ls k))) ∧ w = [(o, .inr (4, [.ref oa, .ref ob, .ref oc, .ref od])), (oa, .inl (cI, 3, .inl (fun i => nI (updN ls k 0 i)))), (ob, .inl (cJ, 3, .inr (.inl (fun i => zL (updZ fo k 0 i))))), (oc, .inl (cJ, 3, .inr (.inl (fun i => zL (updZ tx k 0 i))))), (od, .inl (cJ, 3, .inr (.inl (fun i => zL (updZ ty k 0 i)))))]) := by
  refine Ct.ofI (ty := .int) (by decide) (Nat.le_of_ble_eq_true rfl) ?_
  intro p e s m args below meth c A R Q F hnm hcs0 hE
  refine v_lv (lv' := [(0, .ref o), (1, .int (nI k))]) [0, 1] rfl ?_
  refine v_aload_n F dX4_clear_0 (i := 0) rfl 0 rfl (q := 1) rfl ?_
  refine gt_X4_9 F dX4_clear_1 0 rfl rfl (q := 4) rfl ?_
  refine v_iload_n F dX4_clear_4 (i := 1) rfl 1 rfl (q := 5) rfl ?_
  refine v_ialdN F 1 0 rfl rfl (j := k) (by omega) (by decide) dX4_clear_5 (q := 6) rfl ?_
  refine v_st (st' := [.int (nI (ls k))]) rfl ?_
  refine v_istore_n F dX4_clear_6 (i := 2) (lv' := [(2, .int (nI (ls k))), (0, .ref o), (1, .int (nI k))]) rfl (Nat.le_of_ble_eq_true rfl) rfl (q := 7) rfl ?_
  refine v_aload_n F dX4_clear_7 (i := 0) rfl 1 rfl (q := 8) rfl ?_
  refine gt_X4_9 F dX4_clear_8 0 rfl rfl (q := 11) rfl ?_
  refine v_iload_n F dX4_clear_11 (i := 1) rfl 2 rfl (q := 12) rfl ?_
  refine v_iconst F dX4_clear_12 (v := 0) (q := 13) rfl rfl ?_
  refine v_iastN F 1 0 rfl rfl (j := k) (by omega) (by decide) dX4_clear_13 (q := 14) rfl ?_
  refine v_ws (ws' := [(o, .inr (4, [.ref oa, .ref ob, .ref oc, .ref od])), (oa, .inl (cI, 3, .inl (upd (fun i => nI (ls i)) k 0))), (ob, .inl (cJ, 3, .inr (.inl (fun i => zL (fo i))))), (oc, .inl (cJ, 3, .inr (.inl (fun i => zL (tx i))))), (od, .inl (cJ, 3, .inr (.inl (fun i => zL (ty i)))))]) rfl ?_
  refine v_aload_n F dX4_clear_14 (i := 0) rfl 1 rfl (q := 15) rfl ?_
  refine gt_X4_15 F dX4_clear_15 0 rfl rfl (q := 18) rfl ?_
  refine v_iload_n F dX4_clear_18 (i := 1) rfl 2 rfl (q := 19) rfl ?_
  refine v_lconst F dX4_clear_19 (v := 0) (q := 20) rfl rfl ?_
  refine v_lastN F 2 1 rfl rfl (j := k) (by omega) (by decide) dX4_clear_20 (q := 21) rfl ?_
  refine v_ws (ws' := [(o, .inr (4, [.ref oa, .ref ob, .ref oc, .ref od])), (oa, .inl (cI, 3, .inl (upd (fun i => nI (ls i)) k 0))), (ob, .inl (cJ, 3, .inr (.inl (vp_updL (fun i => zL (fo i)) k 0)))), (oc, .inl (cJ, 3, .inr (.inl (fun i => zL (tx i))))), (od, .inl (cJ, 3, .inr (.inl (fun i => zL (ty i)))))]) rfl ?_
  refine v_aload_n F dX4_clear_21 (i := 0) rfl 1 rfl (q := 22) rfl ?_
  refine gt_X4_19 F dX4_clear_22 0 rfl rfl (q := 25) rfl ?_
  refine v_iload_n F dX4_clear_25 (i := 1) rfl 2 rfl (q := 26) rfl ?_
  refine v_lconst F dX4_clear_26 (v := 0) (q := 27) rfl rfl ?_
  refine v_lastN F 3 1 rfl rfl (j := k) (by omega) (by decide) dX4_clear_27 (q := 28) rfl ?_
  refine v_ws (ws' := [(o, .inr (4, [.ref oa, .ref ob, .ref oc, .ref od])), (oa, .inl (cI, 3, .inl (upd (fun i => nI (ls i)) k 0))), (ob, .inl (cJ, 3, .inr (.inl (vp_updL (fun i => zL (fo i)) k 0)))), (oc, .inl (cJ, 3, .inr (.inl (vp_updL (fun i => zL (tx i)) k 0)))), (od, .inl (cJ, 3, .inr (.inl (fun i => zL (ty i)))))]) rfl ?_
  refine v_aload_n F dX4_clear_28 (i := 0) rfl 1 rfl (q := 29) rfl ?_
  refine gt_X4_22 F dX4_clear_29 0 rfl rfl (q := 32) rfl ?_
  refine v_iload_n F dX4_clear_32 (i := 1) rfl 2 rfl (q := 33) rfl ?_
  refine v_lconst F dX4_clear_33 (v := 0) (q := 34) rfl rfl ?_
  refine v_lastN F 4 1 rfl rfl (j := k) (by omega) (by decide) dX4_clear_34 (q := 35) rfl ?_
  refine v_ws (ws' := [(o, .inr (4, [.ref oa, .ref ob, .ref oc, .ref od])), (oa, .inl (cI, 3, .inl (upd (fun i => nI (ls i)) k 0))), (ob, .inl (cJ, 3, .inr (.inl (vp_updL (fun i => zL (fo i)) k 0)))), (oc, .inl (cJ, 3, .inr (.inl (vp_updL (fun i => zL (tx i)) k 0)))), (od, .inl (cJ, 3, .inr (.inl (vp_updL (fun i => zL (ty i)) k 0))))]) rfl ?_
  refine v_iload_n F dX4_clear_35 (i := 2) rfl 0 rfl (q := 36) rfl ?_
  exact hE rfl dX4_clear_36 (Nat.zero_le _) (Nat.zero_le _) ⟨⟨rfl, by rw [← upd_nI, ← upd_zL, ← upd_zL, ← upd_zL]; rfl⟩, Nat.le_of_ble_eq_true rfl⟩

set_option maxHeartbeats 4000000 in
set_option maxRecDepth 100000 in
theorem c_X4_all (o oa ob oc od : Nat) (ls : Nat → Nat) (fo tx ty : Nat → Int)  : Ct l D (TY cI cJ cZ) yX4_all cX4_all 3 (some .int) 0 0 0 0 [.ref o] [(o, .inr (4, [.ref oa, .ref ob, .ref oc, .ref od])), (oa, .inl (cI, 3, .inl (fun i => nI (ls i)))), (ob, .inl (cJ, 3, .inr (.inl (fun i => zL (fo i))))), (oc, .inl (cJ, 3, .inr (.inl (fun i => zL (tx i))))), (od, .inl (cJ, 3, .inr (.inl (fun i => zL (ty i)))))] (fun r w => r = some (.int (nI (nsum ls 3))) ∧ w = [(o, .inr (4, [.ref oa, .ref ob, .ref oc, .ref od])), (oa, .inl (cI, 3, .inl (fun i => nI (ls i)))), (ob, .inl (cJ, 3, .inr (.inl (fun i => zL (fo i))))), (oc, .inl (cJ, 3, .inr (.inl (fun i => zL (tx i))))), (od, .inl (cJ, 3, .inr (.inl (fun i => zL (ty i)))))]) := by
  refine Ct.ofI (ty := .int) (by decide) (Nat.le_of_ble_eq_true rfl) ?_
  intro p e s m args below meth c A R Q F hnm hcs0 hE
  refine v_lv (lv' := [(0, .ref o)]) [0] rfl ?_
  have L4 : ∀ (d k : Nat), k + d = 3 → V p l e R s m args below meth c D A 3 0 0 Q 4 [(0, .ref o), (1, .int (nI (nsum ls k))), (2, .int (nI k))] [] [(o, .inr (4, [.ref oa, .ref ob, .ref oc, .ref od])), (oa, .inl (cI, 3, .inl (fun i => nI (ls i)))), (ob, .inl (cJ, 3, .inr (.inl (fun i => zL (fo i))))), (oc, .inl (cJ, 3, .inr (.inl (fun i => zL (tx i))))), (od, .inl (cJ, 3, .inr (.inl (fun i => zL (ty i)))))] := by
    intro d
    induction d using Nat.strongRecOn with
    | _ d ih => ?_
    intro k hk
    refine v_iload_n F dX4_all_4 (i := 2) rfl 2 rfl (q := 5) rfl ?_
    refine v_iconst F dX4_all_5 (v := 3) (q := 6) rfl rfl ?_
    refine v_icmp_ge F dX4_all_6 (tgt := 24) rfl (q := 9) rfl (fun c6 => ?_) (fun c6 => ?_)
    · skip
      rw [show (3 : Int32) = nI 3 from rfl, nI_leI (by omega) (by omega)] at c6
      have hkn : k = 3 := by omega
      subst hkn
      refine v_iload_n F dX4_all_24 (i := 1) rfl 1 rfl (q := 25) rfl ?_
      exact hE rfl dX4_all_25 (Nat.zero_le _) (Nat.zero_le _) ⟨⟨rfl, rfl⟩, Nat.le_of_ble_eq_true rfl⟩
    · skip
      rw [show (3 : Int32) = nI 3 from rfl, nI_leI (by omega) (by omega)] at c6
      obtain ⟨d, rfl⟩ : ∃ d2, d = d2 + 1 := ⟨d - 1, by omega⟩
      refine v_iload_n F dX4_all_9 (i := 1) rfl 1 rfl (q := 10) rfl ?_
      refine v_aload_n F dX4_all_10 (i := 0) rfl 0 rfl (q := 11) rfl ?_
      refine gt_X4_9 F dX4_all_11 0 rfl rfl (q := 14) rfl ?_
      refine v_iload_n F dX4_all_14 (i := 2) rfl 2 rfl (q := 15) rfl ?_
      refine v_ialdN F 1 0 rfl rfl (j := k) (by omega) (by decide) dX4_all_15 (q := 16) rfl ?_
      refine v_st (st' := [.int (nI (ls k)), .int (nI (nsum ls k))]) rfl ?_
      refine v_iadd F dX4_all_16 (q := 17) rfl ?_
      refine v_int (y := nI (nsum ls (k + 1))) (nI_add _ _) ?_
      refine v_istore_n F dX4_all_17 (i := 1) (lv' := [(1, .int (nI (nsum ls (k + 1)))), (0, .ref o), (2, .int (nI k))]) rfl (Nat.le_of_ble_eq_true rfl) rfl (q := 18) rfl ?_
      refine v_iinc F dX4_all_18 2 rfl (v := nI (k + 1)) (lv' := [(2, .int (nI (k + 1))), (1, .int (nI (nsum ls (k + 1)))), (0, .ref o)]) (nI_1 k) (Nat.le_of_ble_eq_true rfl) rfl (q := 21) rfl ?_
      refine v_goto F dX4_all_21 (tgt := 4) rfl ?_
      refine v_lv (lv' := [(0, .ref o), (1, .int (nI (nsum ls (k + 1)))), (2, .int (nI (k + 1)))]) [2, 1, 0] rfl ?_
      exact ih d (by omega) (k + 1) (by omega)
  refine v_iconst F dX4_all_0 (v := 0) (q := 1) rfl rfl ?_
  refine v_istore_n F dX4_all_1 (i := 1) (lv' := [(1, .int 0), (0, .ref o)]) rfl (Nat.le_of_ble_eq_true rfl) rfl (q := 2) rfl ?_
  refine v_iconst F dX4_all_2 (v := 0) (q := 3) rfl rfl ?_
  refine v_istore_n F dX4_all_3 (i := 2) (lv' := [(2, .int 0), (1, .int 0), (0, .ref o)]) rfl (Nat.le_of_ble_eq_true rfl) rfl (q := 4) rfl ?_
  refine v_lv (lv' := [(0, .ref o), (1, .int 0), (2, .int 0)]) [2, 1, 0] rfl ?_
  exact L4 3 0 (by omega)

set_option maxHeartbeats 4000000 in
set_option maxRecDepth 100000 in
theorem c_X7_commonDivisor (x y : Nat) (hE0 : EI 0 x y) : Ct l D (TY cI cJ cZ) yX7_commonDivisor cX7_commonDivisor 7 (some .long) 0 0 0 0 [.long (lN x), .long (lN y)] [] (fun r w => r = some (.long (lN (Nat.gcd x y))) ∧ w = []) := by
  refine Ct.ofL (by decide) (Nat.le_of_ble_eq_true rfl) ?_
  intro p e s m args below meth c A R Q F hnm hcs0 hE
  refine v_lv (lv' := [(0, .long (lN x)), (2, .long (lN y))]) [0, 1] rfl ?_
  have L3 : ∀ (d i a b : Nat), i + d = 200 → EI i a b → Nat.gcd x y = Nat.gcd a b → V p l e R s m args below meth c D A 7 0 0 Q 3 [(0, .long (lN a)), (2, .long (lN b)), (4, .int (nI i))] [] [] := by
    intro d
    induction d using Nat.strongRecOn with
    | _ d ih => ?_
    intro i a b hi hE2 hg
    have h63 := hE2.1
    have h64 := hE2.2.1
    refine v_iload F dX7_commonDivisor_3 2 rfl (q := 5) rfl ?_
    refine v_sipush F dX7_commonDivisor_5 (v := 200) (q := 8) rfl rfl ?_
    refine v_icmp_ge F dX7_commonDivisor_8 (tgt := 33) rfl (q := 11) rfl (fun c8 => ?_) (fun c8 => ?_)
    · skip
      rw [show (200 : Int32) = nI 200 from rfl, nI_leI (by omega) (by omega)] at c8
      have hb := EI_end hE2 c8
      subst hb
      rw [Nat.gcd_zero_right] at hg
      refine v_lload_n F dX7_commonDivisor_33 (i := 0) rfl 0 rfl (q := 34) rfl ?_
      exact hE dX7_commonDivisor_34 (Nat.zero_le _) (Nat.zero_le _) ⟨⟨by rw [hg], rfl⟩, Nat.le_of_ble_eq_true rfl⟩
    · skip
      rw [show (200 : Int32) = nI 200 from rfl, nI_leI (by omega) (by omega)] at c8
      obtain ⟨d, rfl⟩ : ∃ d2, d = d2 + 1 := ⟨d - 1, by omega⟩
      refine v_lload_n F dX7_commonDivisor_11 (i := 2) rfl 1 rfl (q := 12) rfl ?_
      refine v_lconst F dX7_commonDivisor_12 (v := 0) (q := 13) rfl rfl ?_
      refine v_lcmp_eq F dX7_commonDivisor_13 dX7_commonDivisor_14 (tgt := 33) rfl (q := 17) rfl (fun c13 => ?_) (fun c13 => ?_)
      · skip
        rw [show (0 : Int64) = lN 0 from rfl, pk_lEQ (by omega) (by omega)] at c13
        subst c13
        rw [Nat.gcd_zero_right] at hg
        refine v_lload_n F dX7_commonDivisor_33 (i := 0) rfl 0 rfl (q := 34) rfl ?_
        exact hE dX7_commonDivisor_34 (Nat.zero_le _) (Nat.zero_le _) ⟨⟨by rw [hg], rfl⟩, Nat.le_of_ble_eq_true rfl⟩
      · skip
        have c13b : ¬ b = 0 := fun z => c13 (by rw [z]; rfl)
        refine v_lload_n F dX7_commonDivisor_17 (i := 0) rfl 0 rfl (q := 18) rfl ?_
        refine v_lload_n F dX7_commonDivisor_18 (i := 2) rfl 1 rfl (q := 19) rfl ?_
        refine v_lrem F dX7_commonDivisor_19 c13 (q := 20) rfl ?_
        refine v_long (y := lN (a % b)) (pk_lRem (by omega) (by omega) (by omega)) ?_
        refine v_lstore F dX7_commonDivisor_20 (lv' := [(5, .long (lN (a % b))), (0, .long (lN a)), (2, .long (lN b)), (4, .int (nI i))]) (Nat.le_of_ble_eq_true rfl) rfl (q := 22) rfl ?_
        refine v_lload_n F dX7_commonDivisor_22 (i := 2) rfl 2 rfl (q := 23) rfl ?_
        refine v_lstore_n F dX7_commonDivisor_23 (i := 0) (lv' := [(0, .long (lN b)), (5, .long (lN (a % b))), (2, .long (lN b)), (4, .int (nI i))]) rfl (Nat.le_of_ble_eq_true rfl) rfl (q := 24) rfl ?_
        refine v_lload F dX7_commonDivisor_24 1 rfl (q := 26) rfl ?_
        refine v_lstore_n F dX7_commonDivisor_26 (i := 2) (lv' := [(2, .long (lN (a % b))), (0, .long (lN b)), (5, .long (lN (a % b))), (4, .int (nI i))]) rfl (Nat.le_of_ble_eq_true rfl) rfl (q := 27) rfl ?_
        refine v_iinc F dX7_commonDivisor_27 3 rfl (v := nI (i + 1)) (lv' := [(4, .int (nI (i + 1))), (2, .long (lN (a % b))), (0, .long (lN b)), (5, .long (lN (a % b)))]) (nI_1 i) (Nat.le_of_ble_eq_true rfl) rfl (q := 30) rfl ?_
        refine v_goto F dX7_commonDivisor_30 (tgt := 3) rfl ?_
        refine v_lv (lv' := [(0, .long (lN b)), (2, .long (lN (a % b))), (4, .int (nI (i + 1)))]) [2, 1, 0] rfl ?_
        exact ih d (by omega) (i + 1) b (a % b) (by omega) (EI_step hE2 c13b) (by rw [hg, Nat.gcd_comm a b]; exact (Nat.gcd_rec b a).trans (Nat.gcd_comm _ _))
  refine v_iconst F dX7_commonDivisor_0 (v := 0) (q := 1) rfl rfl ?_
  refine v_istore F dX7_commonDivisor_1 (lv' := [(4, .int 0), (0, .long (lN x)), (2, .long (lN y))]) (Nat.le_of_ble_eq_true rfl) rfl (q := 3) rfl ?_
  refine v_lv (lv' := [(0, .long (lN x)), (2, .long (lN y)), (4, .int 0)]) [1, 2, 0] rfl ?_
  exact L3 200 0 x y (by omega) hE0 rfl

set_option maxHeartbeats 4000000 in
set_option maxRecDepth 100000 in
theorem c_X6_clear (t ta tb : Nat) (ab bl : Nat → Int64) (tn : Nat)  : Ct l D (TY cI cJ cZ) yX6_clear cX6_clear 1 none 0 0 0 0 [.ref t] [(t, .inr (6, [.ref ta, .ref tb, .int (nI tn)])), (ta, .inl (cJ, 15, .inr (.inl ab))), (tb, .inl (cJ, 15, .inr (.inl bl)))] (fun r w => r = none ∧ w = [(t, .inr (6, [.ref ta, .ref tb, .int 0])), (ta, .inl (cJ, 15, .inr (.inl ab))), (tb, .inl (cJ, 15, .inr (.inl bl)))]) := by
  refine Ct.ofV (by decide) (Nat.le_of_ble_eq_true rfl) ?_
  intro p e s m args below meth c A R Q F hnm hcs0 hE
  refine v_lv (lv' := [(0, .ref t)]) [0] rfl ?_
  refine v_aload_n F dX6_clear_0 (i := 0) rfl 0 rfl (q := 1) rfl ?_
  refine v_iconst F dX6_clear_1 (v := 0) (q := 2) rfl rfl ?_
  refine pt_X6_18 F dX6_clear_2 0 rfl (Nat.le_of_ble_eq_true rfl) (q := 5) rfl ?_
  refine v_ws (ws' := [(t, .inr (6, [.ref ta, .ref tb, .int 0])), (ta, .inl (cJ, 15, .inr (.inl ab))), (tb, .inl (cJ, 15, .inr (.inl bl)))]) rfl ?_
  exact hE dX6_clear_5 (Nat.zero_le _) (Nat.zero_le _) ⟨⟨rfl, rfl⟩, Nat.le_of_ble_eq_true rfl⟩

set_option maxHeartbeats 4000000 in
set_option maxRecDepth 100000 in
theorem c_X6_add (t ta tb : Nat) (ab bl : Nat → Int64) (tn : Nat) (a b : Int64) (ht : tn < 15) (ha : -9223372036854775808 < a.toInt) (hb : 0 < b.toInt) : Ct l D (TY cI cJ cZ) yX6_add cX6_add 7 none 1 26 0 0 [.ref t, .long a, .long b] [(t, .inr (6, [.ref ta, .ref tb, .int (nI tn)])), (ta, .inl (cJ, 15, .inr (.inl ab))), (tb, .inl (cJ, 15, .inr (.inl bl)))] (fun r w => r = none ∧ w = [(t, .inr (6, [.ref ta, .ref tb, .int (nI (tn + 1))])), (ta, .inl (cJ, 15, .inr (.inl (vp_updL ab tn (a / dG a b))))), (tb, .inl (cJ, 15, .inr (.inl (vp_updL bl tn (b / dG a b)))))]) := by
  refine Ct.ofV (by decide) (Nat.le_of_ble_eq_true rfl) ?_
  intro p e s m args below meth c A R Q F hnm hcs0 hE
  refine v_lv (lv' := [(0, .ref t), (1, .long a), (3, .long b)]) [0, 1, 2] rfl ?_
  have hA := i64_rng a
  have hB := i64_rng b
  have hE0 : EI 0 a.toInt.natAbs b.toInt.natAbs := ⟨by omega, by omega, Or.inl rfl⟩
  have hd0 := dG_pos (a := a) hb
  refine v_lload_n F dX6_add_0 (i := 1) rfl 1 rfl (q := 1) rfl ?_
  refine v_mabsl F ml_X6_22 sm_Mabs inS_J9 co_Mabs ⟨Nat.zero_le _, Nat.zero_le _⟩ dX6_add_1 (Nat.le_of_ble_eq_true rfl) (Nat.le_of_ble_eq_true rfl) (q := 4) rfl ?_
  refine v_long (y := lN a.toInt.natAbs) (abs_lN ha) ?_
  refine v_lload_n F dX6_add_4 (i := 3) rfl 2 rfl (q := 5) rfl ?_
  refine v_long (y := lN b.toInt.natAbs) (pos_lN (Int.le_of_lt hb)) ?_
  refine v_callSN F ml_X6_28 sm_X7_commonDivisor in_X7 co_X7_commonDivisor sd_X7_commonDivisor (c_X7_commonDivisor a.toInt.natAbs b.toInt.natAbs hE0) ⟨Nat.zero_le _, Nat.zero_le _⟩ (Nat.le_of_ble_eq_true rfl) (Nat.le_of_ble_eq_true rfl) rfl [] rfl rfl rfl (rest := []) rfl (Nat.le_of_ble_eq_true rfl) dX6_add_5 (q := 8) rfl (fun r w hr => ?_)
  obtain ⟨rfl, rfl⟩ := hr
  refine v_ws (ws' := [(t, .inr (6, [.ref ta, .ref tb, .int (nI tn)])), (ta, .inl (cJ, 15, .inr (.inl ab))), (tb, .inl (cJ, 15, .inr (.inl bl)))]) rfl ?_
  refine v_st (st' := [.long (lN (Nat.gcd a.toInt.natAbs b.toInt.natAbs))]) rfl ?_
  refine v_long (y := dG a b) (rfl) ?_
  refine v_lstore F dX6_add_8 (lv' := [(5, .long (dG a b)), (0, .ref t), (1, .long a), (3, .long b)]) (Nat.le_of_ble_eq_true rfl) rfl (q := 10) rfl ?_
  refine v_aload_n F dX6_add_10 (i := 0) rfl 1 rfl (q := 11) rfl ?_
  refine gt_X6_18 F dX6_add_11 0 rfl rfl (q := 14) rfl ?_
  refine v_bipush F dX6_add_14 (v := 15) (q := 16) rfl rfl ?_
  refine v_icmp_ge F dX6_add_16 (tgt := 26) rfl (q := 19) rfl (fun c16 => ?_) (fun c16 => ?_)
  · exact absurd c16 (fun z => by rw [show (15 : Int32) = nI 15 from rfl, nI_leI (by omega) (by omega)] at z; omega)
  · skip
    refine v_lload F dX6_add_19 0 rfl (q := 21) rfl ?_
    refine v_lconst F dX6_add_21 (v := 1) (q := 22) rfl rfl ?_
    refine v_lcmp_ge F dX6_add_22 dX6_add_23 (tgt := 27) rfl (q := 26) rfl (fun c22 => ?_) (fun c22 => ?_)
    · skip
      refine v_aload_n F dX6_add_27 (i := 0) rfl 1 rfl (q := 28) rfl ?_
      refine gt_X6_9 F dX6_add_28 0 rfl rfl (q := 31) rfl ?_
      refine v_aload_n F dX6_add_31 (i := 0) rfl 1 rfl (q := 32) rfl ?_
      refine gt_X6_18 F dX6_add_32 0 rfl rfl (q := 35) rfl ?_
      refine v_lload_n F dX6_add_35 (i := 1) rfl 2 rfl (q := 36) rfl ?_
      refine v_lload F dX6_add_36 0 rfl (q := 38) rfl ?_
      refine v_ldiv F dX6_add_38 hd0.1 (q := 39) rfl ?_
      refine v_lastN F 1 1 rfl rfl (j := tn) (by omega) (by decide) dX6_add_39 (q := 40) rfl ?_
      refine v_ws (ws' := [(t, .inr (6, [.ref ta, .ref tb, .int (nI tn)])), (ta, .inl (cJ, 15, .inr (.inl (vp_updL ab tn (a / (dG a b)))))), (tb, .inl (cJ, 15, .inr (.inl bl)))]) rfl ?_
      refine v_aload_n F dX6_add_40 (i := 0) rfl 1 rfl (q := 41) rfl ?_
      refine gt_X6_15 F dX6_add_41 0 rfl rfl (q := 44) rfl ?_
      refine v_aload_n F dX6_add_44 (i := 0) rfl 1 rfl (q := 45) rfl ?_
      refine gt_X6_18 F dX6_add_45 0 rfl rfl (q := 48) rfl ?_
      refine v_lload_n F dX6_add_48 (i := 3) rfl 3 rfl (q := 49) rfl ?_
      refine v_lload F dX6_add_49 0 rfl (q := 51) rfl ?_
      refine v_ldiv F dX6_add_51 hd0.1 (q := 52) rfl ?_
      refine v_lastN F 2 1 rfl rfl (j := tn) (by omega) (by decide) dX6_add_52 (q := 53) rfl ?_
      refine v_ws (ws' := [(t, .inr (6, [.ref ta, .ref tb, .int (nI tn)])), (ta, .inl (cJ, 15, .inr (.inl (vp_updL ab tn (a / (dG a b)))))), (tb, .inl (cJ, 15, .inr (.inl (vp_updL bl tn (b / (dG a b))))))]) rfl ?_
      refine v_aload_n F dX6_add_53 (i := 0) rfl 1 rfl (q := 54) rfl ?_
      refine v_dup F dX6_add_54 rfl (q := 55) rfl ?_
      refine gt_X6_18 F dX6_add_55 0 rfl rfl (q := 58) rfl ?_
      refine v_iconst F dX6_add_58 (v := 1) (q := 59) rfl rfl ?_
      refine v_iadd F dX6_add_59 (q := 60) rfl ?_
      refine v_int (y := nI (tn + 1)) (nI_1 tn) ?_
      refine pt_X6_18 F dX6_add_60 0 rfl (Nat.le_of_ble_eq_true rfl) (q := 63) rfl ?_
      refine v_ws (ws' := [(t, .inr (6, [.ref ta, .ref tb, .int (nI (tn + 1))])), (ta, .inl (cJ, 15, .inr (.inl (vp_updL ab tn (a / (dG a b)))))), (tb, .inl (cJ, 15, .inr (.inl (vp_updL bl tn (b / (dG a b))))))]) rfl ?_
      exact hE dX6_add_63 (Nat.zero_le _) (Nat.zero_le _) ⟨⟨rfl, rfl⟩, Nat.le_of_ble_eq_true rfl⟩
    · exact absurd hd0.2 c22

end LF
end
section
section MD
variable {l : Launch} {D : va_G} {cI cJ cZ : ClassId}
set_option maxHeartbeats 4000000 in
set_option maxRecDepth 100000 in
theorem c_X0_standOn (ca : Nat) (h ha hb hc hd : Nat) (px py : Nat → Int32) (pl : Nat → Nat) (pk : Nat → Int32) (N M : Nat) (w1 w2 w3 w4 w5 w6 de cw cp cq : Int) (B : Nat) (P : POK px py pl pk N) (hB : B < 4096) : Ct l D (TY cI cJ cZ) yX0_standOn cX0_standOn 18 (some .boolean) 0 0 0 0 [.ref ca, .int (nI B)] [(ca, .inr (0, [.ref h, .long (zL w1), .long (zL w2), .long (zL w3), .long (zL w4), .long (zL w5), .long (zL w6), .long (zL de), .long (zL cw), .long (zL cp), .long (zL cq)])), (h, .inr (5, [.ref ha, .ref hb, .ref hc, .ref hd, .int (nI M), .int (nI N)])), (ha, .inl (cI, 12, .inl px)), (hb, .inl (cI, 12, .inl py)), (hc, .inl (cI, 12, .inl (fun i => nI (pl i)))), (hd, .inl (cI, 12, .inl pk))] (fun r w => r = some (.int (bI (decide (0 < dDE pk px py B N)))) ∧ w = [(ca, .inr (0, [.ref h, .long (zL (dWW pk px py B N)), .long (zL (dWP pk px py B N)), .long (zL (dWQ pk px py B N)), .long (zL (dPP pk px py B N)), .long (zL (dPQ pk px py B N)), .long (zL (dQQ pk px py B N)), .long (zL (dDE pk px py B N)), .long (zL cw), .long (zL cp), .long (zL cq)])), (h, .inr (5, [.ref ha, .ref hb, .ref hc, .ref hd, .int (nI M), .int (nI N)])), (ha, .inl (cI, 12, .inl px)), (hb, .inl (cI, 12, .inl py)), (hc, .inl (cI, 12, .inl (fun i => nI (pl i)))), (hd, .inl (cI, 12, .inl pk))]) := by
  refine Ct.ofI (ty := .boolean) (by decide) (Nat.le_of_ble_eq_true rfl) ?_
  intro p e s m args below meth c A R Q F hnm hcs0 hE
  refine v_lv (lv' := [(0, .ref ca), (1, .int (nI B))]) [0, 1] rfl ?_
  have hN12 := P.1
  have L20 : ∀ (d k : Nat), k + d = N → V p l e R s m args below meth c D A 18 0 0 Q 20 [(0, .ref ca), (1, .int (nI B)), (2, .long (zL (sm B (fK pk) k))), (4, .long (zL (sm B (fKX pk px) k))), (6, .long (zL (sm B (fKX pk py) k))), (8, .long (zL (sm B (fKXX pk px px) k))), (10, .long (zL (sm B (fKXX pk px py) k))), (12, .long (zL (sm B (fKXX pk py py) k))), (14, .int (nI k))] [] [(ca, .inr (0, [.ref h, .long (zL w1), .long (zL w2), .long (zL w3), .long (zL w4), .long (zL w5), .long (zL w6), .long (zL de), .long (zL cw), .long (zL cp), .long (zL cq)])), (h, .inr (5, [.ref ha, .ref hb, .ref hc, .ref hd, .int (nI M), .int (nI N)])), (ha, .inl (cI, 12, .inl px)), (hb, .inl (cI, 12, .inl py)), (hc, .inl (cI, 12, .inl (fun i => nI (pl i)))), (hd, .inl (cI, 12, .inl pk))] := by
    intro d
    induction d using Nat.strongRecOn with
    | _ d ih => ?_
    intro k hk
    refine v_iload F dX0_standOn_20 8 rfl (q := 22) rfl ?_
    refine v_aload_n F dX0_standOn_22 (i := 0) rfl 0 rfl (q := 23) rfl ?_
    refine gt_X0_13 F dX0_standOn_23 0 rfl rfl (q := 26) rfl ?_
    refine gt_X0_17 F dX0_standOn_26 1 rfl rfl (q := 29) rfl ?_
    refine v_icmp_ge F dX0_standOn_29 (tgt := 168) rfl (q := 32) rfl (fun c29 => ?_) (fun c29 => ?_)
    · skip
      rw [nI_leI (by omega) (by omega)] at c29
      have hkn : k = N := by omega
      subst hkn
      refine v_aload_n F dX0_standOn_168 (i := 0) rfl 0 rfl (q := 169) rfl ?_
      refine v_lload F dX0_standOn_169 5 rfl (q := 171) rfl ?_
      refine v_lload F dX0_standOn_171 7 rfl (q := 173) rfl ?_
      refine v_lmul F dX0_standOn_173 (q := 174) rfl ?_
      refine v_lload F dX0_standOn_174 6 rfl (q := 176) rfl ?_
      refine v_lload F dX0_standOn_176 6 rfl (q := 178) rfl ?_
      refine v_lmul F dX0_standOn_178 (q := 179) rfl ?_
      refine v_lsub F dX0_standOn_179 (q := 180) rfl ?_
      refine v_long (y := zL (dWW pk px py B k)) (by simp only [zL_mul, zL_sub, zL_add]; rfl) ?_
      refine pt_X0_33 F dX0_standOn_180 0 rfl (Nat.le_of_ble_eq_true rfl) (q := 183) rfl ?_
      refine v_ws (ws' := [(ca, .inr (0, [.ref h, .long (zL (dWW pk px py B k)), .long (zL w2), .long (zL w3), .long (zL w4), .long (zL w5), .long (zL w6), .long (zL de), .long (zL cw), .long (zL cp), .long (zL cq)])), (h, .inr (5, [.ref ha, .ref hb, .ref hc, .ref hd, .int (nI M), .int (nI k)])), (ha, .inl (cI, 12, .inl px)), (hb, .inl (cI, 12, .inl py)), (hc, .inl (cI, 12, .inl (fun i => nI (pl i)))), (hd, .inl (cI, 12, .inl pk))]) rfl ?_
      refine v_aload_n F dX0_standOn_183 (i := 0) rfl 0 rfl (q := 184) rfl ?_
      refine v_lload F dX0_standOn_184 4 rfl (q := 186) rfl ?_
      refine v_lload F dX0_standOn_186 6 rfl (q := 188) rfl ?_
      refine v_lmul F dX0_standOn_188 (q := 189) rfl ?_
      refine v_lload F dX0_standOn_189 3 rfl (q := 191) rfl ?_
      refine v_lload F dX0_standOn_191 7 rfl (q := 193) rfl ?_
      refine v_lmul F dX0_standOn_193 (q := 194) rfl ?_
      refine v_lsub F dX0_standOn_194 (q := 195) rfl ?_
      refine v_long (y := zL (dWP pk px py B k)) (by simp only [zL_mul, zL_sub, zL_add]; rfl) ?_
      refine pt_X0_36 F dX0_standOn_195 0 rfl (Nat.le_of_ble_eq_true rfl) (q := 198) rfl ?_
      refine v_ws (ws' := [(ca, .inr (0, [.ref h, .long (zL (dWW pk px py B k)), .long (zL (dWP pk px py B k)), .long (zL w3), .long (zL w4), .long (zL w5), .long (zL w6), .long (zL de), .long (zL cw), .long (zL cp), .long (zL cq)])), (h, .inr (5, [.ref ha, .ref hb, .ref hc, .ref hd, .int (nI M), .int (nI k)])), (ha, .inl (cI, 12, .inl px)), (hb, .inl (cI, 12, .inl py)), (hc, .inl (cI, 12, .inl (fun i => nI (pl i)))), (hd, .inl (cI, 12, .inl pk))]) rfl ?_
      refine v_aload_n F dX0_standOn_198 (i := 0) rfl 0 rfl (q := 199) rfl ?_
      refine v_lload F dX0_standOn_199 3 rfl (q := 201) rfl ?_
      refine v_lload F dX0_standOn_201 6 rfl (q := 203) rfl ?_
      refine v_lmul F dX0_standOn_203 (q := 204) rfl ?_
      refine v_lload F dX0_standOn_204 4 rfl (q := 206) rfl ?_
      refine v_lload F dX0_standOn_206 5 rfl (q := 208) rfl ?_
      refine v_lmul F dX0_standOn_208 (q := 209) rfl ?_
      refine v_lsub F dX0_standOn_209 (q := 210) rfl ?_
      refine v_long (y := zL (dWQ pk px py B k)) (by simp only [zL_mul, zL_sub, zL_add]; rfl) ?_
      refine pt_X0_39 F dX0_standOn_210 0 rfl (Nat.le_of_ble_eq_true rfl) (q := 213) rfl ?_
      refine v_ws (ws' := [(ca, .inr (0, [.ref h, .long (zL (dWW pk px py B k)), .long (zL (dWP pk px py B k)), .long (zL (dWQ pk px py B k)), .long (zL w4), .long (zL w5), .long (zL w6), .long (zL de), .long (zL cw), .long (zL cp), .long (zL cq)])), (h, .inr (5, [.ref ha, .ref hb, .ref hc, .ref hd, .int (nI M), .int (nI k)])), (ha, .inl (cI, 12, .inl px)), (hb, .inl (cI, 12, .inl py)), (hc, .inl (cI, 12, .inl (fun i => nI (pl i)))), (hd, .inl (cI, 12, .inl pk))]) rfl ?_
      refine v_aload_n F dX0_standOn_213 (i := 0) rfl 0 rfl (q := 214) rfl ?_
      refine v_lload_n F dX0_standOn_214 (i := 2) rfl 2 rfl (q := 215) rfl ?_
      refine v_lload F dX0_standOn_215 7 rfl (q := 217) rfl ?_
      refine v_lmul F dX0_standOn_217 (q := 218) rfl ?_
      refine v_lload F dX0_standOn_218 4 rfl (q := 220) rfl ?_
      refine v_lload F dX0_standOn_220 4 rfl (q := 222) rfl ?_
      refine v_lmul F dX0_standOn_222 (q := 223) rfl ?_
      refine v_lsub F dX0_standOn_223 (q := 224) rfl ?_
      refine v_long (y := zL (dPP pk px py B k)) (by simp only [zL_mul, zL_sub, zL_add]; rfl) ?_
      refine pt_X0_42 F dX0_standOn_224 0 rfl (Nat.le_of_ble_eq_true rfl) (q := 227) rfl ?_
      refine v_ws (ws' := [(ca, .inr (0, [.ref h, .long (zL (dWW pk px py B k)), .long (zL (dWP pk px py B k)), .long (zL (dWQ pk px py B k)), .long (zL (dPP pk px py B k)), .long (zL w5), .long (zL w6), .long (zL de), .long (zL cw), .long (zL cp), .long (zL cq)])), (h, .inr (5, [.ref ha, .ref hb, .ref hc, .ref hd, .int (nI M), .int (nI k)])), (ha, .inl (cI, 12, .inl px)), (hb, .inl (cI, 12, .inl py)), (hc, .inl (cI, 12, .inl (fun i => nI (pl i)))), (hd, .inl (cI, 12, .inl pk))]) rfl ?_
      refine v_aload_n F dX0_standOn_227 (i := 0) rfl 0 rfl (q := 228) rfl ?_
      refine v_lload F dX0_standOn_228 3 rfl (q := 230) rfl ?_
      refine v_lload F dX0_standOn_230 4 rfl (q := 232) rfl ?_
      refine v_lmul F dX0_standOn_232 (q := 233) rfl ?_
      refine v_lload_n F dX0_standOn_233 (i := 2) rfl 2 rfl (q := 234) rfl ?_
      refine v_lload F dX0_standOn_234 6 rfl (q := 236) rfl ?_
      refine v_lmul F dX0_standOn_236 (q := 237) rfl ?_
      refine v_lsub F dX0_standOn_237 (q := 238) rfl ?_
      refine v_long (y := zL (dPQ pk px py B k)) (by simp only [zL_mul, zL_sub, zL_add]; rfl) ?_
      refine pt_X0_45 F dX0_standOn_238 0 rfl (Nat.le_of_ble_eq_true rfl) (q := 241) rfl ?_
      refine v_ws (ws' := [(ca, .inr (0, [.ref h, .long (zL (dWW pk px py B k)), .long (zL (dWP pk px py B k)), .long (zL (dWQ pk px py B k)), .long (zL (dPP pk px py B k)), .long (zL (dPQ pk px py B k)), .long (zL w6), .long (zL de), .long (zL cw), .long (zL cp), .long (zL cq)])), (h, .inr (5, [.ref ha, .ref hb, .ref hc, .ref hd, .int (nI M), .int (nI k)])), (ha, .inl (cI, 12, .inl px)), (hb, .inl (cI, 12, .inl py)), (hc, .inl (cI, 12, .inl (fun i => nI (pl i)))), (hd, .inl (cI, 12, .inl pk))]) rfl ?_
      refine v_aload_n F dX0_standOn_241 (i := 0) rfl 0 rfl (q := 242) rfl ?_
      refine v_lload_n F dX0_standOn_242 (i := 2) rfl 2 rfl (q := 243) rfl ?_
      refine v_lload F dX0_standOn_243 5 rfl (q := 245) rfl ?_
      refine v_lmul F dX0_standOn_245 (q := 246) rfl ?_
      refine v_lload F dX0_standOn_246 3 rfl (q := 248) rfl ?_
      refine v_lload F dX0_standOn_248 3 rfl (q := 250) rfl ?_
      refine v_lmul F dX0_standOn_250 (q := 251) rfl ?_
      refine v_lsub F dX0_standOn_251 (q := 252) rfl ?_
      refine v_long (y := zL (dQQ pk px py B k)) (by simp only [zL_mul, zL_sub, zL_add]; rfl) ?_
      refine pt_X0_48 F dX0_standOn_252 0 rfl (Nat.le_of_ble_eq_true rfl) (q := 255) rfl ?_
      refine v_ws (ws' := [(ca, .inr (0, [.ref h, .long (zL (dWW pk px py B k)), .long (zL (dWP pk px py B k)), .long (zL (dWQ pk px py B k)), .long (zL (dPP pk px py B k)), .long (zL (dPQ pk px py B k)), .long (zL (dQQ pk px py B k)), .long (zL de), .long (zL cw), .long (zL cp), .long (zL cq)])), (h, .inr (5, [.ref ha, .ref hb, .ref hc, .ref hd, .int (nI M), .int (nI k)])), (ha, .inl (cI, 12, .inl px)), (hb, .inl (cI, 12, .inl py)), (hc, .inl (cI, 12, .inl (fun i => nI (pl i)))), (hd, .inl (cI, 12, .inl pk))]) rfl ?_
      refine v_aload_n F dX0_standOn_255 (i := 0) rfl 0 rfl (q := 256) rfl ?_
      refine v_lload_n F dX0_standOn_256 (i := 2) rfl 2 rfl (q := 257) rfl ?_
      refine v_aload_n F dX0_standOn_257 (i := 0) rfl 0 rfl (q := 258) rfl ?_
      refine gt_X0_33 F dX0_standOn_258 0 rfl rfl (q := 261) rfl ?_
      refine v_lmul F dX0_standOn_261 (q := 262) rfl ?_
      refine v_lload F dX0_standOn_262 3 rfl (q := 264) rfl ?_
      refine v_aload_n F dX0_standOn_264 (i := 0) rfl 0 rfl (q := 265) rfl ?_
      refine gt_X0_36 F dX0_standOn_265 0 rfl rfl (q := 268) rfl ?_
      refine v_lmul F dX0_standOn_268 (q := 269) rfl ?_
      refine v_ladd F dX0_standOn_269 (q := 270) rfl ?_
      refine v_lload F dX0_standOn_270 4 rfl (q := 272) rfl ?_
      refine v_aload_n F dX0_standOn_272 (i := 0) rfl 0 rfl (q := 273) rfl ?_
      refine gt_X0_39 F dX0_standOn_273 0 rfl rfl (q := 276) rfl ?_
      refine v_lmul F dX0_standOn_276 (q := 277) rfl ?_
      refine v_ladd F dX0_standOn_277 (q := 278) rfl ?_
      refine v_long (y := zL (dDE pk px py B k)) (by simp only [zL_mul, zL_sub, zL_add]; rfl) ?_
      refine pt_X0_7 F dX0_standOn_278 0 rfl (Nat.le_of_ble_eq_true rfl) (q := 281) rfl ?_
      refine v_ws (ws' := [(ca, .inr (0, [.ref h, .long (zL (dWW pk px py B k)), .long (zL (dWP pk px py B k)), .long (zL (dWQ pk px py B k)), .long (zL (dPP pk px py B k)), .long (zL (dPQ pk px py B k)), .long (zL (dQQ pk px py B k)), .long (zL (dDE pk px py B k)), .long (zL cw), .long (zL cp), .long (zL cq)])), (h, .inr (5, [.ref ha, .ref hb, .ref hc, .ref hd, .int (nI M), .int (nI k)])), (ha, .inl (cI, 12, .inl px)), (hb, .inl (cI, 12, .inl py)), (hc, .inl (cI, 12, .inl (fun i => nI (pl i)))), (hd, .inl (cI, 12, .inl pk))]) rfl ?_
      refine v_aload_n F dX0_standOn_281 (i := 0) rfl 0 rfl (q := 282) rfl ?_
      refine gt_X0_7 F dX0_standOn_282 0 rfl rfl (q := 285) rfl ?_
      refine v_lconst F dX0_standOn_285 (v := 0) (q := 286) rfl rfl ?_
      refine v_lcmp_le F dX0_standOn_286 dX0_standOn_287 (tgt := 294) rfl (q := 290) rfl (fun c286 => ?_) (fun c286 => ?_)
      · skip
        refine v_iconst F dX0_standOn_294 (v := 0) (q := 295) rfl rfl ?_
        exact hE rfl dX0_standOn_295 (Nat.zero_le _) (Nat.zero_le _) ⟨⟨by rw [bI_z.mpr (dde_f P c286)], rfl⟩, Nat.le_of_ble_eq_true rfl⟩
      · skip
        refine v_iconst F dX0_standOn_290 (v := 1) (q := 291) rfl rfl ?_
        refine v_goto F dX0_standOn_291 (tgt := 295) rfl ?_
        exact hE rfl dX0_standOn_295 (Nat.zero_le _) (Nat.zero_le _) ⟨⟨by rw [bI_o.mpr (dde_t P c286)], rfl⟩, Nat.le_of_ble_eq_true rfl⟩
    · skip
      rw [nI_leI (by omega) (by omega)] at c29
      obtain ⟨d, rfl⟩ : ∃ d2, d = d2 + 1 := ⟨d - 1, by omega⟩
      have hkn : k < N := by omega
      have q1 := pk2 P hkn
      have q2 := P.2.1 k hkn
      have q3 := P.2.2.1 k hkn
      refine v_iload_n F dX0_standOn_32 (i := 1) rfl 1 rfl (q := 33) rfl ?_
      refine v_iload F dX0_standOn_33 8 rfl (q := 35) rfl ?_
      refine v_ishr F dX0_standOn_35 (q := 36) rfl ?_
      refine v_iconst F dX0_standOn_36 (v := 1) (q := 37) rfl rfl ?_
      refine v_iand F dX0_standOn_37 (q := 38) rfl ?_
      refine v_int (y := bI (B.testBit k)) (sh_bit hB (by omega)) ?_
      refine v_if_eq F dX0_standOn_38 (tgt := 162) rfl (q := 41) rfl (fun c38 => ?_) (fun c38 => ?_)
      · skip
        refine v_iinc F dX0_standOn_162 8 rfl (v := nI (k + 1)) (lv' := [(14, .int (nI (k + 1))), (0, .ref ca), (1, .int (nI B)), (2, .long (zL (sm B (fK pk) k))), (4, .long (zL (sm B (fKX pk px) k))), (6, .long (zL (sm B (fKX pk py) k))), (8, .long (zL (sm B (fKXX pk px px) k))), (10, .long (zL (sm B (fKXX pk px py) k))), (12, .long (zL (sm B (fKXX pk py py) k)))]) (nI_1 k) (Nat.le_of_ble_eq_true rfl) rfl (q := 165) rfl ?_
        refine v_goto F dX0_standOn_165 (tgt := 20) rfl ?_
        refine v_lv (lv' := [(0, .ref ca), (1, .int (nI B)), (2, .long (zL (sm B (fK pk) k))), (4, .long (zL (sm B (fKX pk px) k))), (6, .long (zL (sm B (fKX pk py) k))), (8, .long (zL (sm B (fKXX pk px px) k))), (10, .long (zL (sm B (fKXX pk px py) k))), (12, .long (zL (sm B (fKXX pk py py) k))), (14, .int (nI (k + 1)))]) [1, 2, 3, 4, 5, 6, 7, 8, 0] rfl ?_
        have hV := ih d (by omega) (k + 1) (by omega)
        simp only [sm_f (bI_z.mp c38)] at hV
        exact hV
      · skip
        refine v_aload_n F dX0_standOn_41 (i := 0) rfl 0 rfl (q := 42) rfl ?_
        refine gt_X0_13 F dX0_standOn_42 0 rfl rfl (q := 45) rfl ?_
        refine gt_X0_23 F dX0_standOn_45 1 rfl rfl (q := 48) rfl ?_
        refine v_iload F dX0_standOn_48 8 rfl (q := 50) rfl ?_
        refine v_ialdN F 5 0 rfl rfl (j := k) (by omega) (by decide) dX0_standOn_50 (q := 51) rfl ?_
        refine v_istore F dX0_standOn_51 (lv' := [(15, .int (pk k)), (0, .ref ca), (1, .int (nI B)), (2, .long (zL (sm B (fK pk) k))), (4, .long (zL (sm B (fKX pk px) k))), (6, .long (zL (sm B (fKX pk py) k))), (8, .long (zL (sm B (fKXX pk px px) k))), (10, .long (zL (sm B (fKXX pk px py) k))), (12, .long (zL (sm B (fKXX pk py py) k))), (14, .int (nI k))]) (Nat.le_of_ble_eq_true rfl) rfl (q := 53) rfl ?_
        refine v_iload F dX0_standOn_53 0 rfl (q := 55) rfl ?_
        refine v_aload_n F dX0_standOn_55 (i := 0) rfl 1 rfl (q := 56) rfl ?_
        refine gt_X0_13 F dX0_standOn_56 0 rfl rfl (q := 59) rfl ?_
        refine gt_X0_27 F dX0_standOn_59 1 rfl rfl (q := 62) rfl ?_
        refine v_iload F dX0_standOn_62 9 rfl (q := 64) rfl ?_
        refine v_ialdN F 2 0 rfl rfl (j := k) (by omega) (by decide) dX0_standOn_64 (q := 65) rfl ?_
        refine v_imul F dX0_standOn_65 (q := 66) rfl ?_
        refine v_istore F dX0_standOn_66 (lv' := [(16, .int ((pk k) * (px k))), (15, .int (pk k)), (0, .ref ca), (1, .int (nI B)), (2, .long (zL (sm B (fK pk) k))), (4, .long (zL (sm B (fKX pk px) k))), (6, .long (zL (sm B (fKX pk py) k))), (8, .long (zL (sm B (fKXX pk px px) k))), (10, .long (zL (sm B (fKXX pk px py) k))), (12, .long (zL (sm B (fKXX pk py py) k))), (14, .int (nI k))]) (Nat.le_of_ble_eq_true rfl) rfl (q := 68) rfl ?_
        refine v_iload F dX0_standOn_68 1 rfl (q := 70) rfl ?_
        refine v_aload_n F dX0_standOn_70 (i := 0) rfl 2 rfl (q := 71) rfl ?_
        refine gt_X0_13 F dX0_standOn_71 0 rfl rfl (q := 74) rfl ?_
        refine gt_X0_30 F dX0_standOn_74 1 rfl rfl (q := 77) rfl ?_
        refine v_iload F dX0_standOn_77 10 rfl (q := 79) rfl ?_
        refine v_ialdN F 3 0 rfl rfl (j := k) (by omega) (by decide) dX0_standOn_79 (q := 80) rfl ?_
        refine v_imul F dX0_standOn_80 (q := 81) rfl ?_
        refine v_istore F dX0_standOn_81 (lv' := [(17, .int ((pk k) * (py k))), (16, .int ((pk k) * (px k))), (15, .int (pk k)), (0, .ref ca), (1, .int (nI B)), (2, .long (zL (sm B (fK pk) k))), (4, .long (zL (sm B (fKX pk px) k))), (6, .long (zL (sm B (fKX pk py) k))), (8, .long (zL (sm B (fKXX pk px px) k))), (10, .long (zL (sm B (fKXX pk px py) k))), (12, .long (zL (sm B (fKXX pk py py) k))), (14, .int (nI k))]) (Nat.le_of_ble_eq_true rfl) rfl (q := 83) rfl ?_
        refine v_lload_n F dX0_standOn_83 (i := 2) rfl 5 rfl (q := 84) rfl ?_
        refine v_iload F dX0_standOn_84 2 rfl (q := 86) rfl ?_
        refine v_i2l F dX0_standOn_86 (q := 87) rfl ?_
        refine v_ladd F dX0_standOn_87 (q := 88) rfl ?_
        refine v_long (y := zL (sm B (fK pk) k + (pk k).toInt)) (st_0) ?_
        refine v_lstore_n F dX0_standOn_88 (i := 2) (lv' := [(2, .long (zL (sm B (fK pk) k + (pk k).toInt))), (17, .int ((pk k) * (py k))), (16, .int ((pk k) * (px k))), (15, .int (pk k)), (0, .ref ca), (1, .int (nI B)), (4, .long (zL (sm B (fKX pk px) k))), (6, .long (zL (sm B (fKX pk py) k))), (8, .long (zL (sm B (fKXX pk px px) k))), (10, .long (zL (sm B (fKXX pk px py) k))), (12, .long (zL (sm B (fKXX pk py py) k))), (14, .int (nI k))]) rfl (Nat.le_of_ble_eq_true rfl) rfl (q := 89) rfl ?_
        refine v_lload F dX0_standOn_89 6 rfl (q := 91) rfl ?_
        refine v_iload F dX0_standOn_91 2 rfl (q := 93) rfl ?_
        refine v_i2l F dX0_standOn_93 (q := 94) rfl ?_
        refine v_ladd F dX0_standOn_94 (q := 95) rfl ?_
        refine v_long (y := zL (sm B (fKX pk px) k + (pk k).toInt * (px k).toInt)) (st_1 q1 q2) ?_
        refine v_lstore F dX0_standOn_95 (lv' := [(4, .long (zL (sm B (fKX pk px) k + (pk k).toInt * (px k).toInt))), (2, .long (zL (sm B (fK pk) k + (pk k).toInt))), (17, .int ((pk k) * (py k))), (16, .int ((pk k) * (px k))), (15, .int (pk k)), (0, .ref ca), (1, .int (nI B)), (6, .long (zL (sm B (fKX pk py) k))), (8, .long (zL (sm B (fKXX pk px px) k))), (10, .long (zL (sm B (fKXX pk px py) k))), (12, .long (zL (sm B (fKXX pk py py) k))), (14, .int (nI k))]) (Nat.le_of_ble_eq_true rfl) rfl (q := 97) rfl ?_
        refine v_lload F dX0_standOn_97 7 rfl (q := 99) rfl ?_
        refine v_iload F dX0_standOn_99 2 rfl (q := 101) rfl ?_
        refine v_i2l F dX0_standOn_101 (q := 102) rfl ?_
        refine v_ladd F dX0_standOn_102 (q := 103) rfl ?_
        refine v_long (y := zL (sm B (fKX pk py) k + (pk k).toInt * (py k).toInt)) (st_1 q1 q3) ?_
        refine v_lstore F dX0_standOn_103 (lv' := [(6, .long (zL (sm B (fKX pk py) k + (pk k).toInt * (py k).toInt))), (4, .long (zL (sm B (fKX pk px) k + (pk k).toInt * (px k).toInt))), (2, .long (zL (sm B (fK pk) k + (pk k).toInt))), (17, .int ((pk k) * (py k))), (16, .int ((pk k) * (px k))), (15, .int (pk k)), (0, .ref ca), (1, .int (nI B)), (8, .long (zL (sm B (fKXX pk px px) k))), (10, .long (zL (sm B (fKXX pk px py) k))), (12, .long (zL (sm B (fKXX pk py py) k))), (14, .int (nI k))]) (Nat.le_of_ble_eq_true rfl) rfl (q := 105) rfl ?_
        refine v_lload F dX0_standOn_105 8 rfl (q := 107) rfl ?_
        refine v_iload F dX0_standOn_107 4 rfl (q := 109) rfl ?_
        refine v_aload_n F dX0_standOn_109 (i := 0) rfl 6 rfl (q := 110) rfl ?_
        refine gt_X0_13 F dX0_standOn_110 0 rfl rfl (q := 113) rfl ?_
        refine gt_X0_27 F dX0_standOn_113 1 rfl rfl (q := 116) rfl ?_
        refine v_iload F dX0_standOn_116 11 rfl (q := 118) rfl ?_
        refine v_ialdN F 2 0 rfl rfl (j := k) (by omega) (by decide) dX0_standOn_118 (q := 119) rfl ?_
        refine v_imul F dX0_standOn_119 (q := 120) rfl ?_
        refine v_i2l F dX0_standOn_120 (q := 121) rfl ?_
        refine v_ladd F dX0_standOn_121 (q := 122) rfl ?_
        refine v_long (y := zL (sm B (fKXX pk px px) k + (pk k).toInt * (px k).toInt * (px k).toInt)) (st_2 q1 q2 q2) ?_
        refine v_lstore F dX0_standOn_122 (lv' := [(8, .long (zL (sm B (fKXX pk px px) k + (pk k).toInt * (px k).toInt * (px k).toInt))), (6, .long (zL (sm B (fKX pk py) k + (pk k).toInt * (py k).toInt))), (4, .long (zL (sm B (fKX pk px) k + (pk k).toInt * (px k).toInt))), (2, .long (zL (sm B (fK pk) k + (pk k).toInt))), (17, .int ((pk k) * (py k))), (16, .int ((pk k) * (px k))), (15, .int (pk k)), (0, .ref ca), (1, .int (nI B)), (10, .long (zL (sm B (fKXX pk px py) k))), (12, .long (zL (sm B (fKXX pk py py) k))), (14, .int (nI k))]) (Nat.le_of_ble_eq_true rfl) rfl (q := 124) rfl ?_
        refine v_lload F dX0_standOn_124 9 rfl (q := 126) rfl ?_
        refine v_iload F dX0_standOn_126 5 rfl (q := 128) rfl ?_
        refine v_aload_n F dX0_standOn_128 (i := 0) rfl 7 rfl (q := 129) rfl ?_
        refine gt_X0_13 F dX0_standOn_129 0 rfl rfl (q := 132) rfl ?_
        refine gt_X0_30 F dX0_standOn_132 1 rfl rfl (q := 135) rfl ?_
        refine v_iload F dX0_standOn_135 11 rfl (q := 137) rfl ?_
        refine v_ialdN F 3 0 rfl rfl (j := k) (by omega) (by decide) dX0_standOn_137 (q := 138) rfl ?_
        refine v_imul F dX0_standOn_138 (q := 139) rfl ?_
        refine v_i2l F dX0_standOn_139 (q := 140) rfl ?_
        refine v_ladd F dX0_standOn_140 (q := 141) rfl ?_
        refine v_long (y := zL (sm B (fKXX pk px py) k + (pk k).toInt * (px k).toInt * (py k).toInt)) (st_2 q1 q2 q3) ?_
        refine v_lstore F dX0_standOn_141 (lv' := [(10, .long (zL (sm B (fKXX pk px py) k + (pk k).toInt * (px k).toInt * (py k).toInt))), (8, .long (zL (sm B (fKXX pk px px) k + (pk k).toInt * (px k).toInt * (px k).toInt))), (6, .long (zL (sm B (fKX pk py) k + (pk k).toInt * (py k).toInt))), (4, .long (zL (sm B (fKX pk px) k + (pk k).toInt * (px k).toInt))), (2, .long (zL (sm B (fK pk) k + (pk k).toInt))), (17, .int ((pk k) * (py k))), (16, .int ((pk k) * (px k))), (15, .int (pk k)), (0, .ref ca), (1, .int (nI B)), (12, .long (zL (sm B (fKXX pk py py) k))), (14, .int (nI k))]) (Nat.le_of_ble_eq_true rfl) rfl (q := 143) rfl ?_
        refine v_lload F dX0_standOn_143 10 rfl (q := 145) rfl ?_
        refine v_iload F dX0_standOn_145 5 rfl (q := 147) rfl ?_
        refine v_aload_n F dX0_standOn_147 (i := 0) rfl 8 rfl (q := 148) rfl ?_
        refine gt_X0_13 F dX0_standOn_148 0 rfl rfl (q := 151) rfl ?_
        refine gt_X0_30 F dX0_standOn_151 1 rfl rfl (q := 154) rfl ?_
        refine v_iload F dX0_standOn_154 11 rfl (q := 156) rfl ?_
        refine v_ialdN F 3 0 rfl rfl (j := k) (by omega) (by decide) dX0_standOn_156 (q := 157) rfl ?_
        refine v_imul F dX0_standOn_157 (q := 158) rfl ?_
        refine v_i2l F dX0_standOn_158 (q := 159) rfl ?_
        refine v_ladd F dX0_standOn_159 (q := 160) rfl ?_
        refine v_long (y := zL (sm B (fKXX pk py py) k + (pk k).toInt * (py k).toInt * (py k).toInt)) (st_2 q1 q3 q3) ?_
        refine v_lstore F dX0_standOn_160 (lv' := [(12, .long (zL (sm B (fKXX pk py py) k + (pk k).toInt * (py k).toInt * (py k).toInt))), (10, .long (zL (sm B (fKXX pk px py) k + (pk k).toInt * (px k).toInt * (py k).toInt))), (8, .long (zL (sm B (fKXX pk px px) k + (pk k).toInt * (px k).toInt * (px k).toInt))), (6, .long (zL (sm B (fKX pk py) k + (pk k).toInt * (py k).toInt))), (4, .long (zL (sm B (fKX pk px) k + (pk k).toInt * (px k).toInt))), (2, .long (zL (sm B (fK pk) k + (pk k).toInt))), (17, .int ((pk k) * (py k))), (16, .int ((pk k) * (px k))), (15, .int (pk k)), (0, .ref ca), (1, .int (nI B)), (14, .int (nI k))]) (Nat.le_of_ble_eq_true rfl) rfl (q := 162) rfl ?_
        refine v_iinc F dX0_standOn_162 11 rfl (v := nI (k + 1)) (lv' := [(14, .int (nI (k + 1))), (12, .long (zL (sm B (fKXX pk py py) k + (pk k).toInt * (py k).toInt * (py k).toInt))), (10, .long (zL (sm B (fKXX pk px py) k + (pk k).toInt * (px k).toInt * (py k).toInt))), (8, .long (zL (sm B (fKXX pk px px) k + (pk k).toInt * (px k).toInt * (px k).toInt))), (6, .long (zL (sm B (fKX pk py) k + (pk k).toInt * (py k).toInt))), (4, .long (zL (sm B (fKX pk px) k + (pk k).toInt * (px k).toInt))), (2, .long (zL (sm B (fK pk) k + (pk k).toInt))), (17, .int ((pk k) * (py k))), (16, .int ((pk k) * (px k))), (15, .int (pk k)), (0, .ref ca), (1, .int (nI B))]) (nI_1 k) (Nat.le_of_ble_eq_true rfl) rfl (q := 165) rfl ?_
        refine v_goto F dX0_standOn_165 (tgt := 20) rfl ?_
        refine v_lv (lv' := [(0, .ref ca), (1, .int (nI B)), (2, .long (zL (sm B (fK pk) k + (pk k).toInt))), (4, .long (zL (sm B (fKX pk px) k + (pk k).toInt * (px k).toInt))), (6, .long (zL (sm B (fKX pk py) k + (pk k).toInt * (py k).toInt))), (8, .long (zL (sm B (fKXX pk px px) k + (pk k).toInt * (px k).toInt * (px k).toInt))), (10, .long (zL (sm B (fKXX pk px py) k + (pk k).toInt * (px k).toInt * (py k).toInt))), (12, .long (zL (sm B (fKXX pk py py) k + (pk k).toInt * (py k).toInt * (py k).toInt))), (14, .int (nI (k + 1)))]) [10, 11, 6, 5, 4, 3, 2, 1, 0] rfl ?_
        have hV := ih d (by omega) (k + 1) (by omega)
        simp only [sm_t (bI_nz.mp c38)] at hV
        exact hV
  refine v_lconst F dX0_standOn_0 (v := 0) (q := 1) rfl rfl ?_
  refine v_lstore_n F dX0_standOn_1 (i := 2) (lv' := [(2, .long 0), (0, .ref ca), (1, .int (nI B))]) rfl (Nat.le_of_ble_eq_true rfl) rfl (q := 2) rfl ?_
  refine v_lconst F dX0_standOn_2 (v := 0) (q := 3) rfl rfl ?_
  refine v_lstore F dX0_standOn_3 (lv' := [(4, .long 0), (2, .long 0), (0, .ref ca), (1, .int (nI B))]) (Nat.le_of_ble_eq_true rfl) rfl (q := 5) rfl ?_
  refine v_lconst F dX0_standOn_5 (v := 0) (q := 6) rfl rfl ?_
  refine v_lstore F dX0_standOn_6 (lv' := [(6, .long 0), (4, .long 0), (2, .long 0), (0, .ref ca), (1, .int (nI B))]) (Nat.le_of_ble_eq_true rfl) rfl (q := 8) rfl ?_
  refine v_lconst F dX0_standOn_8 (v := 0) (q := 9) rfl rfl ?_
  refine v_lstore F dX0_standOn_9 (lv' := [(8, .long 0), (6, .long 0), (4, .long 0), (2, .long 0), (0, .ref ca), (1, .int (nI B))]) (Nat.le_of_ble_eq_true rfl) rfl (q := 11) rfl ?_
  refine v_lconst F dX0_standOn_11 (v := 0) (q := 12) rfl rfl ?_
  refine v_lstore F dX0_standOn_12 (lv' := [(10, .long 0), (8, .long 0), (6, .long 0), (4, .long 0), (2, .long 0), (0, .ref ca), (1, .int (nI B))]) (Nat.le_of_ble_eq_true rfl) rfl (q := 14) rfl ?_
  refine v_lconst F dX0_standOn_14 (v := 0) (q := 15) rfl rfl ?_
  refine v_lstore F dX0_standOn_15 (lv' := [(12, .long 0), (10, .long 0), (8, .long 0), (6, .long 0), (4, .long 0), (2, .long 0), (0, .ref ca), (1, .int (nI B))]) (Nat.le_of_ble_eq_true rfl) rfl (q := 17) rfl ?_
  refine v_iconst F dX0_standOn_17 (v := 0) (q := 18) rfl rfl ?_
  refine v_istore F dX0_standOn_18 (lv' := [(14, .int 0), (12, .long 0), (10, .long 0), (8, .long 0), (6, .long 0), (4, .long 0), (2, .long 0), (0, .ref ca), (1, .int (nI B))]) (Nat.le_of_ble_eq_true rfl) rfl (q := 20) rfl ?_
  refine v_lv (lv' := [(0, .ref ca), (1, .int (nI B)), (2, .long 0), (4, .long 0), (6, .long 0), (8, .long 0), (10, .long 0), (12, .long 0), (14, .int 0)]) [7, 8, 6, 5, 4, 3, 2, 1, 0] rfl ?_
  exact L20 N 0 (by omega)

set_option maxHeartbeats 4000000 in
set_option maxRecDepth 100000 in
theorem c_X0_take (ca : Nat) (h : Nat) (o oa ob oc od : Nat) (ls : Nat → Nat) (fo tx ty : Nat → Int) (w1 w2 w3 w4 w5 w6 de cw cp cq : Int) (k : Nat) (hk : k < 3) : Ct l D (TY cI cJ cZ) yX0_take cX0_take 9 none 0 0 0 0 [.ref ca, .ref o, .int (nI k)] [(ca, .inr (0, [.ref h, .long (zL w1), .long (zL w2), .long (zL w3), .long (zL w4), .long (zL w5), .long (zL w6), .long (zL de), .long (zL cw), .long (zL cp), .long (zL cq)])), (o, .inr (4, [.ref oa, .ref ob, .ref oc, .ref od])), (oa, .inl (cI, 3, .inl (fun i => nI (ls i)))), (ob, .inl (cJ, 3, .inr (.inl (fun i => zL (fo i))))), (oc, .inl (cJ, 3, .inr (.inl (fun i => zL (tx i))))), (od, .inl (cJ, 3, .inr (.inl (fun i => zL (ty i)))))] (fun r w => r = none ∧ w = [(ca, .inr (0, [.ref h, .long (zL w1), .long (zL w2), .long (zL w3), .long (zL w4), .long (zL w5), .long (zL w6), .long (zL de), .long (zL (w1 * fo k + w2 * tx k + w3 * ty k)), .long (zL (w2 * fo k + w4 * tx k + w5 * ty k)), .long (zL (w3 * fo k + w5 * tx k + w6 * ty k))])), (o, .inr (4, [.ref oa, .ref ob, .ref oc, .ref od])), (oa, .inl (cI, 3, .inl (fun i => nI (ls i)))), (ob, .inl (cJ, 3, .inr (.inl (fun i => zL (fo i))))), (oc, .inl (cJ, 3, .inr (.inl (fun i => zL (tx i))))), (od, .inl (cJ, 3, .inr (.inl (fun i => zL (ty i)))))]) := by
  refine Ct.ofV (by decide) (Nat.le_of_ble_eq_true rfl) ?_
  intro p e s m args below meth c A R Q F hnm hcs0 hE
  refine v_lv (lv' := [(0, .ref ca), (1, .ref o), (2, .int (nI k))]) [0, 1, 2] rfl ?_
  refine v_aload_n F dX0_take_0 (i := 1) rfl 1 rfl (q := 1) rfl ?_
  refine gt_X0_51 F dX0_take_1 1 rfl rfl (q := 4) rfl ?_
  refine v_iload_n F dX0_take_4 (i := 2) rfl 2 rfl (q := 5) rfl ?_
  refine v_laldN F 3 1 rfl rfl (j := k) (by omega) (by decide) dX0_take_5 (q := 6) rfl ?_
  refine v_st (st' := [.long (zL (fo k))]) rfl ?_
  refine v_lstore_n F dX0_take_6 (i := 3) (lv' := [(3, .long (zL (fo k))), (0, .ref ca), (1, .ref o), (2, .int (nI k))]) rfl (Nat.le_of_ble_eq_true rfl) rfl (q := 7) rfl ?_
  refine v_aload_n F dX0_take_7 (i := 1) rfl 2 rfl (q := 8) rfl ?_
  refine gt_X0_57 F dX0_take_8 1 rfl rfl (q := 11) rfl ?_
  refine v_iload_n F dX0_take_11 (i := 2) rfl 3 rfl (q := 12) rfl ?_
  refine v_laldN F 4 1 rfl rfl (j := k) (by omega) (by decide) dX0_take_12 (q := 13) rfl ?_
  refine v_st (st' := [.long (zL (tx k))]) rfl ?_
  refine v_lstore F dX0_take_13 (lv' := [(5, .long (zL (tx k))), (3, .long (zL (fo k))), (0, .ref ca), (1, .ref o), (2, .int (nI k))]) (Nat.le_of_ble_eq_true rfl) rfl (q := 15) rfl ?_
  refine v_aload_n F dX0_take_15 (i := 1) rfl 3 rfl (q := 16) rfl ?_
  refine gt_X0_60 F dX0_take_16 1 rfl rfl (q := 19) rfl ?_
  refine v_iload_n F dX0_take_19 (i := 2) rfl 4 rfl (q := 20) rfl ?_
  refine v_laldN F 5 1 rfl rfl (j := k) (by omega) (by decide) dX0_take_20 (q := 21) rfl ?_
  refine v_st (st' := [.long (zL (ty k))]) rfl ?_
  refine v_lstore F dX0_take_21 (lv' := [(7, .long (zL (ty k))), (5, .long (zL (tx k))), (3, .long (zL (fo k))), (0, .ref ca), (1, .ref o), (2, .int (nI k))]) (Nat.le_of_ble_eq_true rfl) rfl (q := 23) rfl ?_
  refine v_aload_n F dX0_take_23 (i := 0) rfl 3 rfl (q := 24) rfl ?_
  refine v_aload_n F dX0_take_24 (i := 0) rfl 3 rfl (q := 25) rfl ?_
  refine gt_X0_33 F dX0_take_25 0 rfl rfl (q := 28) rfl ?_
  refine v_lload_n F dX0_take_28 (i := 3) rfl 2 rfl (q := 29) rfl ?_
  refine v_lmul F dX0_take_29 (q := 30) rfl ?_
  refine v_aload_n F dX0_take_30 (i := 0) rfl 3 rfl (q := 31) rfl ?_
  refine gt_X0_36 F dX0_take_31 0 rfl rfl (q := 34) rfl ?_
  refine v_lload F dX0_take_34 1 rfl (q := 36) rfl ?_
  refine v_lmul F dX0_take_36 (q := 37) rfl ?_
  refine v_ladd F dX0_take_37 (q := 38) rfl ?_
  refine v_aload_n F dX0_take_38 (i := 0) rfl 3 rfl (q := 39) rfl ?_
  refine gt_X0_39 F dX0_take_39 0 rfl rfl (q := 42) rfl ?_
  refine v_lload F dX0_take_42 0 rfl (q := 44) rfl ?_
  refine v_lmul F dX0_take_44 (q := 45) rfl ?_
  refine v_ladd F dX0_take_45 (q := 46) rfl ?_
  refine v_long (y := zL (w1 * fo k + w2 * tx k + w3 * ty k)) (by simp only [zL_mul, zL_add]) ?_
  refine pt_X0_63 F dX0_take_46 0 rfl (Nat.le_of_ble_eq_true rfl) (q := 49) rfl ?_
  refine v_ws (ws' := [(ca, .inr (0, [.ref h, .long (zL w1), .long (zL w2), .long (zL w3), .long (zL w4), .long (zL w5), .long (zL w6), .long (zL de), .long (zL (w1 * fo k + w2 * tx k + w3 * ty k)), .long (zL cp), .long (zL cq)])), (o, .inr (4, [.ref oa, .ref ob, .ref oc, .ref od])), (oa, .inl (cI, 3, .inl (fun i => nI (ls i)))), (ob, .inl (cJ, 3, .inr (.inl (fun i => zL (fo i))))), (oc, .inl (cJ, 3, .inr (.inl (fun i => zL (tx i))))), (od, .inl (cJ, 3, .inr (.inl (fun i => zL (ty i)))))]) rfl ?_
  refine v_aload_n F dX0_take_49 (i := 0) rfl 3 rfl (q := 50) rfl ?_
  refine v_aload_n F dX0_take_50 (i := 0) rfl 3 rfl (q := 51) rfl ?_
  refine gt_X0_36 F dX0_take_51 0 rfl rfl (q := 54) rfl ?_
  refine v_lload_n F dX0_take_54 (i := 3) rfl 2 rfl (q := 55) rfl ?_
  refine v_lmul F dX0_take_55 (q := 56) rfl ?_
  refine v_aload_n F dX0_take_56 (i := 0) rfl 3 rfl (q := 57) rfl ?_
  refine gt_X0_42 F dX0_take_57 0 rfl rfl (q := 60) rfl ?_
  refine v_lload F dX0_take_60 1 rfl (q := 62) rfl ?_
  refine v_lmul F dX0_take_62 (q := 63) rfl ?_
  refine v_ladd F dX0_take_63 (q := 64) rfl ?_
  refine v_aload_n F dX0_take_64 (i := 0) rfl 3 rfl (q := 65) rfl ?_
  refine gt_X0_45 F dX0_take_65 0 rfl rfl (q := 68) rfl ?_
  refine v_lload F dX0_take_68 0 rfl (q := 70) rfl ?_
  refine v_lmul F dX0_take_70 (q := 71) rfl ?_
  refine v_ladd F dX0_take_71 (q := 72) rfl ?_
  refine v_long (y := zL (w2 * fo k + w4 * tx k + w5 * ty k)) (by simp only [zL_mul, zL_add]) ?_
  refine pt_X0_66 F dX0_take_72 0 rfl (Nat.le_of_ble_eq_true rfl) (q := 75) rfl ?_
  refine v_ws (ws' := [(ca, .inr (0, [.ref h, .long (zL w1), .long (zL w2), .long (zL w3), .long (zL w4), .long (zL w5), .long (zL w6), .long (zL de), .long (zL (w1 * fo k + w2 * tx k + w3 * ty k)), .long (zL (w2 * fo k + w4 * tx k + w5 * ty k)), .long (zL cq)])), (o, .inr (4, [.ref oa, .ref ob, .ref oc, .ref od])), (oa, .inl (cI, 3, .inl (fun i => nI (ls i)))), (ob, .inl (cJ, 3, .inr (.inl (fun i => zL (fo i))))), (oc, .inl (cJ, 3, .inr (.inl (fun i => zL (tx i))))), (od, .inl (cJ, 3, .inr (.inl (fun i => zL (ty i)))))]) rfl ?_
  refine v_aload_n F dX0_take_75 (i := 0) rfl 3 rfl (q := 76) rfl ?_
  refine v_aload_n F dX0_take_76 (i := 0) rfl 3 rfl (q := 77) rfl ?_
  refine gt_X0_39 F dX0_take_77 0 rfl rfl (q := 80) rfl ?_
  refine v_lload_n F dX0_take_80 (i := 3) rfl 2 rfl (q := 81) rfl ?_
  refine v_lmul F dX0_take_81 (q := 82) rfl ?_
  refine v_aload_n F dX0_take_82 (i := 0) rfl 3 rfl (q := 83) rfl ?_
  refine gt_X0_45 F dX0_take_83 0 rfl rfl (q := 86) rfl ?_
  refine v_lload F dX0_take_86 1 rfl (q := 88) rfl ?_
  refine v_lmul F dX0_take_88 (q := 89) rfl ?_
  refine v_ladd F dX0_take_89 (q := 90) rfl ?_
  refine v_aload_n F dX0_take_90 (i := 0) rfl 3 rfl (q := 91) rfl ?_
  refine gt_X0_48 F dX0_take_91 0 rfl rfl (q := 94) rfl ?_
  refine v_lload F dX0_take_94 0 rfl (q := 96) rfl ?_
  refine v_lmul F dX0_take_96 (q := 97) rfl ?_
  refine v_ladd F dX0_take_97 (q := 98) rfl ?_
  refine v_long (y := zL (w3 * fo k + w5 * tx k + w6 * ty k)) (by simp only [zL_mul, zL_add]) ?_
  refine pt_X0_69 F dX0_take_98 0 rfl (Nat.le_of_ble_eq_true rfl) (q := 101) rfl ?_
  refine v_ws (ws' := [(ca, .inr (0, [.ref h, .long (zL w1), .long (zL w2), .long (zL w3), .long (zL w4), .long (zL w5), .long (zL w6), .long (zL de), .long (zL (w1 * fo k + w2 * tx k + w3 * ty k)), .long (zL (w2 * fo k + w4 * tx k + w5 * ty k)), .long (zL (w3 * fo k + w5 * tx k + w6 * ty k))])), (o, .inr (4, [.ref oa, .ref ob, .ref oc, .ref od])), (oa, .inl (cI, 3, .inl (fun i => nI (ls i)))), (ob, .inl (cJ, 3, .inr (.inl (fun i => zL (fo i))))), (oc, .inl (cJ, 3, .inr (.inl (fun i => zL (tx i))))), (od, .inl (cJ, 3, .inr (.inl (fun i => zL (ty i)))))]) rfl ?_
  exact hE dX0_take_101 (Nat.zero_le _) (Nat.zero_le _) ⟨⟨rfl, rfl⟩, Nat.le_of_ble_eq_true rfl⟩

set_option maxHeartbeats 4000000 in
set_option maxRecDepth 100000 in
theorem c_X0_share (ca : Nat) (h ha hb hc hd : Nat) (px py : Nat → Int32) (pl : Nat → Nat) (pk : Nat → Int32) (N M : Nat) (w1 w2 w3 w4 w5 w6 de cw cp cq : Int) (k : Nat) (hk : k < 12) : Ct l D (TY cI cJ cZ) yX0_share cX0_share 2 (some .long) 0 0 0 0 [.ref ca, .int (nI k)] [(ca, .inr (0, [.ref h, .long (zL w1), .long (zL w2), .long (zL w3), .long (zL w4), .long (zL w5), .long (zL w6), .long (zL de), .long (zL cw), .long (zL cp), .long (zL cq)])), (h, .inr (5, [.ref ha, .ref hb, .ref hc, .ref hd, .int (nI M), .int (nI N)])), (ha, .inl (cI, 12, .inl px)), (hb, .inl (cI, 12, .inl py)), (hc, .inl (cI, 12, .inl (fun i => nI (pl i)))), (hd, .inl (cI, 12, .inl pk))] (fun r w => r = some (.long (zL (shI pk px py cw cp cq k))) ∧ w = [(ca, .inr (0, [.ref h, .long (zL w1), .long (zL w2), .long (zL w3), .long (zL w4), .long (zL w5), .long (zL w6), .long (zL de), .long (zL cw), .long (zL cp), .long (zL cq)])), (h, .inr (5, [.ref ha, .ref hb, .ref hc, .ref hd, .int (nI M), .int (nI N)])), (ha, .inl (cI, 12, .inl px)), (hb, .inl (cI, 12, .inl py)), (hc, .inl (cI, 12, .inl (fun i => nI (pl i)))), (hd, .inl (cI, 12, .inl pk))]) := by
  refine Ct.ofL (by decide) (Nat.le_of_ble_eq_true rfl) ?_
  intro p e s m args below meth c A R Q F hnm hcs0 hE
  refine v_lv (lv' := [(0, .ref ca), (1, .int (nI k))]) [0, 1] rfl ?_
  refine v_aload_n F dX0_share_0 (i := 0) rfl 0 rfl (q := 1) rfl ?_
  refine gt_X0_13 F dX0_share_1 0 rfl rfl (q := 4) rfl ?_
  refine gt_X0_23 F dX0_share_4 1 rfl rfl (q := 7) rfl ?_
  refine v_iload_n F dX0_share_7 (i := 1) rfl 1 rfl (q := 8) rfl ?_
  refine v_ialdN F 5 0 rfl rfl (j := k) (by omega) (by decide) dX0_share_8 (q := 9) rfl ?_
  refine v_i2l F dX0_share_9 (q := 10) rfl ?_
  refine v_aload_n F dX0_share_10 (i := 0) rfl 0 rfl (q := 11) rfl ?_
  refine gt_X0_63 F dX0_share_11 0 rfl rfl (q := 14) rfl ?_
  refine v_aload_n F dX0_share_14 (i := 0) rfl 0 rfl (q := 15) rfl ?_
  refine gt_X0_66 F dX0_share_15 0 rfl rfl (q := 18) rfl ?_
  refine v_aload_n F dX0_share_18 (i := 0) rfl 0 rfl (q := 19) rfl ?_
  refine gt_X0_13 F dX0_share_19 0 rfl rfl (q := 22) rfl ?_
  refine gt_X0_27 F dX0_share_22 1 rfl rfl (q := 25) rfl ?_
  refine v_iload_n F dX0_share_25 (i := 1) rfl 1 rfl (q := 26) rfl ?_
  refine v_ialdN F 2 0 rfl rfl (j := k) (by omega) (by decide) dX0_share_26 (q := 27) rfl ?_
  refine v_i2l F dX0_share_27 (q := 28) rfl ?_
  refine v_lmul F dX0_share_28 (q := 29) rfl ?_
  refine v_ladd F dX0_share_29 (q := 30) rfl ?_
  refine v_aload_n F dX0_share_30 (i := 0) rfl 0 rfl (q := 31) rfl ?_
  refine gt_X0_69 F dX0_share_31 0 rfl rfl (q := 34) rfl ?_
  refine v_aload_n F dX0_share_34 (i := 0) rfl 0 rfl (q := 35) rfl ?_
  refine gt_X0_13 F dX0_share_35 0 rfl rfl (q := 38) rfl ?_
  refine gt_X0_30 F dX0_share_38 1 rfl rfl (q := 41) rfl ?_
  refine v_iload_n F dX0_share_41 (i := 1) rfl 1 rfl (q := 42) rfl ?_
  refine v_ialdN F 3 0 rfl rfl (j := k) (by omega) (by decide) dX0_share_42 (q := 43) rfl ?_
  refine v_i2l F dX0_share_43 (q := 44) rfl ?_
  refine v_lmul F dX0_share_44 (q := 45) rfl ?_
  refine v_ladd F dX0_share_45 (q := 46) rfl ?_
  refine v_lmul F dX0_share_46 (q := 47) rfl ?_
  refine v_long (y := zL (shI pk px py cw cp cq k)) (by simp only [i2l_as, zL_mul, zL_add]; rfl) ?_
  exact hE dX0_share_47 (Nat.zero_le _) (Nat.zero_le _) ⟨⟨rfl, rfl⟩, Nat.le_of_ble_eq_true rfl⟩

set_option maxHeartbeats 4000000 in
set_option maxRecDepth 100000 in
theorem c_X3_measure (m0 ma mb mc : Nat) (pu be nr : Nat → Int32) (g ga gb gc : Nat) (th sd tp : Nat → Int32) (n : Nat) (sc : Int32) (h ha hb hc hd : Nat) (px py : Nat → Int32) (pl : Nat → Nat) (pk : Nat → Int32) (N M : Nat) (G : GOK th sd tp n sc) (P : POK px py pl pk N) : Ct l D (TY cI cJ cZ) yX3_measure cX3_measure 4 none 3 66 0 0 [.ref m0, .ref g, .ref h] [(m0, .inr (3, [.ref ma, .ref mb, .ref mc])), (ma, .inl (cI, 12, .inl pu)), (mb, .inl (cI, 12, .inl be)), (mc, .inl (cI, 12, .inl nr)), (g, .inr (2, [.ref ga, .ref gb, .ref gc, .int (nI n), .int sc])), (ga, .inl (cI, 6, .inl th)), (gb, .inl (cI, 6, .inl sd)), (gc, .inl (cI, 6, .inl tp)), (h, .inr (5, [.ref ha, .ref hb, .ref hc, .ref hd, .int (nI M), .int (nI N)])), (ha, .inl (cI, 12, .inl px)), (hb, .inl (cI, 12, .inl py)), (hc, .inl (cI, 12, .inl (fun i => nI (pl i)))), (hd, .inl (cI, 12, .inl pk))] (fun r w => r = none ∧ w = [(m0, .inr (3, [.ref ma, .ref mb, .ref mc])), (ma, .inl (cI, 12, .inl (fil (fun i => zI (gPU th sd n sc (pl i))) pu N))), (mb, .inl (cI, 12, .inl (fil (fun i => zI (gBE th sd tp n sc (pl i))) be N))), (mc, .inl (cI, 12, .inl nr)), (g, .inr (2, [.ref ga, .ref gb, .ref gc, .int (nI n), .int sc])), (ga, .inl (cI, 6, .inl th)), (gb, .inl (cI, 6, .inl sd)), (gc, .inl (cI, 6, .inl tp)), (h, .inr (5, [.ref ha, .ref hb, .ref hc, .ref hd, .int (nI M), .int (nI N)])), (ha, .inl (cI, 12, .inl px)), (hb, .inl (cI, 12, .inl py)), (hc, .inl (cI, 12, .inl (fun i => nI (pl i)))), (hd, .inl (cI, 12, .inl pk))]) := by
  refine Ct.ofV (by decide) (Nat.le_of_ble_eq_true rfl) ?_
  intro p e s m args below meth c A R Q F hnm hcs0 hE
  refine v_lv (lv' := [(0, .ref m0), (1, .ref g), (2, .ref h)]) [0, 1, 2] rfl ?_
  have hN12 := P.1
  have L2 : ∀ (d k : Nat), k + d = N → V p l e R s m args below meth c D A 4 0 0 Q 2 [(0, .ref m0), (1, .ref g), (2, .ref h), (3, .int (nI k))] [] [(m0, .inr (3, [.ref ma, .ref mb, .ref mc])), (ma, .inl (cI, 12, .inl (fil (fun i => zI (gPU th sd n sc (pl i))) pu k))), (mb, .inl (cI, 12, .inl (fil (fun i => zI (gBE th sd tp n sc (pl i))) be k))), (mc, .inl (cI, 12, .inl nr)), (g, .inr (2, [.ref ga, .ref gb, .ref gc, .int (nI n), .int sc])), (ga, .inl (cI, 6, .inl th)), (gb, .inl (cI, 6, .inl sd)), (gc, .inl (cI, 6, .inl tp)), (h, .inr (5, [.ref ha, .ref hb, .ref hc, .ref hd, .int (nI M), .int (nI N)])), (ha, .inl (cI, 12, .inl px)), (hb, .inl (cI, 12, .inl py)), (hc, .inl (cI, 12, .inl (fun i => nI (pl i)))), (hd, .inl (cI, 12, .inl pk))] := by
    intro d
    induction d using Nat.strongRecOn with
    | _ d ih => ?_
    intro k hk
    refine v_iload_n F dX3_measure_2 (i := 3) rfl 3 rfl (q := 3) rfl ?_
    refine v_aload_n F dX3_measure_3 (i := 2) rfl 2 rfl (q := 4) rfl ?_
    refine gt_X3_21 F dX3_measure_4 8 rfl rfl (q := 7) rfl ?_
    refine v_icmp_ge F dX3_measure_7 (tgt := 48) rfl (q := 10) rfl (fun c7 => ?_) (fun c7 => ?_)
    · skip
      rw [nI_leI (by omega) (by omega)] at c7
      have hkn : k = N := by omega
      subst hkn
      exact hE dX3_measure_48 (Nat.zero_le _) (Nat.zero_le _) ⟨⟨rfl, rfl⟩, Nat.le_of_ble_eq_true rfl⟩
    · skip
      rw [nI_leI (by omega) (by omega)] at c7
      obtain ⟨d, rfl⟩ : ∃ d2, d = d2 + 1 := ⟨d - 1, by omega⟩
      have hkn : k < N := by omega
      have hpl := P.2.2.2.1 k hkn
      refine v_aload_n F dX3_measure_10 (i := 0) rfl 0 rfl (q := 11) rfl ?_
      refine gt_X3_9 F dX3_measure_11 0 rfl rfl (q := 14) rfl ?_
      refine v_iload_n F dX3_measure_14 (i := 3) rfl 3 rfl (q := 15) rfl ?_
      refine v_aload_n F dX3_measure_15 (i := 1) rfl 1 rfl (q := 16) rfl ?_
      refine v_aload_n F dX3_measure_16 (i := 2) rfl 2 rfl (q := 17) rfl ?_
      refine gt_X3_27 F dX3_measure_17 8 rfl rfl (q := 20) rfl ?_
      refine v_iload_n F dX3_measure_20 (i := 3) rfl 3 rfl (q := 21) rfl ?_
      refine v_ialdN F 11 0 rfl rfl (j := k) (by omega) (by decide) dX3_measure_21 (q := 22) rfl ?_
      refine v_st (st' := [.int (nI (pl k)), .ref g, .int (nI k), .ref ma]) rfl ?_
      refine v_callVN F ml_X3_30 im_X2_pullOf se_X2_pullOf in_X2 co_X2_pullOf sd_X2_pullOf (c_X2_pullOf g ga gb gc th sd tp n sc (pl k) G (by omega)) ⟨Nat.zero_le _, Nat.zero_le _⟩ (Nat.le_of_ble_eq_true rfl) (Nat.le_of_ble_eq_true rfl) 4 (As := [.int (nI (pl k))]) rfl rfl rfl rfl rfl [4, 5, 6, 7] rfl rfl rfl (rest := [.int (nI k), .ref ma]) rfl (Nat.le_of_ble_eq_true rfl) dX3_measure_22 (q := 25) rfl (fun r w hr => ?_)
      obtain ⟨rfl, rfl⟩ := hr
      refine v_ws (ws' := [(m0, .inr (3, [.ref ma, .ref mb, .ref mc])), (ma, .inl (cI, 12, .inl (fil (fun i => zI (gPU th sd n sc (pl i))) pu k))), (mb, .inl (cI, 12, .inl (fil (fun i => zI (gBE th sd tp n sc (pl i))) be k))), (mc, .inl (cI, 12, .inl nr)), (g, .inr (2, [.ref ga, .ref gb, .ref gc, .int (nI n), .int sc])), (ga, .inl (cI, 6, .inl th)), (gb, .inl (cI, 6, .inl sd)), (gc, .inl (cI, 6, .inl tp)), (h, .inr (5, [.ref ha, .ref hb, .ref hc, .ref hd, .int (nI M), .int (nI N)])), (ha, .inl (cI, 12, .inl px)), (hb, .inl (cI, 12, .inl py)), (hc, .inl (cI, 12, .inl (fun i => nI (pl i)))), (hd, .inl (cI, 12, .inl pk))]) rfl ?_
      refine v_st (st' := [.int (zI (gPU th sd n sc (pl k))), .int (nI k), .ref ma]) rfl ?_
      refine v_iastN F 1 0 rfl rfl (j := k) (by omega) (by decide) dX3_measure_25 (q := 26) rfl ?_
      refine v_ws (ws' := [(m0, .inr (3, [.ref ma, .ref mb, .ref mc])), (ma, .inl (cI, 12, .inl (upd (fil (fun i => zI (gPU th sd n sc (pl i))) pu k) k (zI (gPU th sd n sc (pl k)))))), (mb, .inl (cI, 12, .inl (fil (fun i => zI (gBE th sd tp n sc (pl i))) be k))), (mc, .inl (cI, 12, .inl nr)), (g, .inr (2, [.ref ga, .ref gb, .ref gc, .int (nI n), .int sc])), (ga, .inl (cI, 6, .inl th)), (gb, .inl (cI, 6, .inl sd)), (gc, .inl (cI, 6, .inl tp)), (h, .inr (5, [.ref ha, .ref hb, .ref hc, .ref hd, .int (nI M), .int (nI N)])), (ha, .inl (cI, 12, .inl px)), (hb, .inl (cI, 12, .inl py)), (hc, .inl (cI, 12, .inl (fun i => nI (pl i)))), (hd, .inl (cI, 12, .inl pk))]) rfl ?_
      refine v_aload_n F dX3_measure_26 (i := 0) rfl 0 rfl (q := 27) rfl ?_
      refine gt_X3_15 F dX3_measure_27 0 rfl rfl (q := 30) rfl ?_
      refine v_iload_n F dX3_measure_30 (i := 3) rfl 3 rfl (q := 31) rfl ?_
      refine v_aload_n F dX3_measure_31 (i := 1) rfl 1 rfl (q := 32) rfl ?_
      refine v_aload_n F dX3_measure_32 (i := 2) rfl 2 rfl (q := 33) rfl ?_
      refine gt_X3_27 F dX3_measure_33 8 rfl rfl (q := 36) rfl ?_
      refine v_iload_n F dX3_measure_36 (i := 3) rfl 3 rfl (q := 37) rfl ?_
      refine v_ialdN F 11 0 rfl rfl (j := k) (by omega) (by decide) dX3_measure_37 (q := 38) rfl ?_
      refine v_st (st' := [.int (nI (pl k)), .ref g, .int (nI k), .ref mb]) rfl ?_
      refine v_callVN F ml_X3_36 im_X2_bearingOf se_X2_bearingOf in_X2 co_X2_bearingOf sd_X2_bearingOf (c_X2_bearingOf g ga gb gc th sd tp n sc (pl k) G (by omega)) ⟨Nat.zero_le _, Nat.zero_le _⟩ (Nat.le_of_ble_eq_true rfl) (Nat.le_of_ble_eq_true rfl) 4 (As := [.int (nI (pl k))]) rfl rfl rfl rfl rfl [4, 5, 6, 7] rfl rfl rfl (rest := [.int (nI k), .ref mb]) rfl (Nat.le_of_ble_eq_true rfl) dX3_measure_38 (q := 41) rfl (fun r w hr => ?_)
      obtain ⟨rfl, rfl⟩ := hr
      refine v_ws (ws' := [(m0, .inr (3, [.ref ma, .ref mb, .ref mc])), (ma, .inl (cI, 12, .inl (upd (fil (fun i => zI (gPU th sd n sc (pl i))) pu k) k (zI (gPU th sd n sc (pl k)))))), (mb, .inl (cI, 12, .inl (fil (fun i => zI (gBE th sd tp n sc (pl i))) be k))), (mc, .inl (cI, 12, .inl nr)), (g, .inr (2, [.ref ga, .ref gb, .ref gc, .int (nI n), .int sc])), (ga, .inl (cI, 6, .inl th)), (gb, .inl (cI, 6, .inl sd)), (gc, .inl (cI, 6, .inl tp)), (h, .inr (5, [.ref ha, .ref hb, .ref hc, .ref hd, .int (nI M), .int (nI N)])), (ha, .inl (cI, 12, .inl px)), (hb, .inl (cI, 12, .inl py)), (hc, .inl (cI, 12, .inl (fun i => nI (pl i)))), (hd, .inl (cI, 12, .inl pk))]) rfl ?_
      refine v_st (st' := [.int (zI (gBE th sd tp n sc (pl k))), .int (nI k), .ref mb]) rfl ?_
      refine v_iastN F 2 0 rfl rfl (j := k) (by omega) (by decide) dX3_measure_41 (q := 42) rfl ?_
      refine v_ws (ws' := [(m0, .inr (3, [.ref ma, .ref mb, .ref mc])), (ma, .inl (cI, 12, .inl (upd (fil (fun i => zI (gPU th sd n sc (pl i))) pu k) k (zI (gPU th sd n sc (pl k)))))), (mb, .inl (cI, 12, .inl (upd (fil (fun i => zI (gBE th sd tp n sc (pl i))) be k) k (zI (gBE th sd tp n sc (pl k)))))), (mc, .inl (cI, 12, .inl nr)), (g, .inr (2, [.ref ga, .ref gb, .ref gc, .int (nI n), .int sc])), (ga, .inl (cI, 6, .inl th)), (gb, .inl (cI, 6, .inl sd)), (gc, .inl (cI, 6, .inl tp)), (h, .inr (5, [.ref ha, .ref hb, .ref hc, .ref hd, .int (nI M), .int (nI N)])), (ha, .inl (cI, 12, .inl px)), (hb, .inl (cI, 12, .inl py)), (hc, .inl (cI, 12, .inl (fun i => nI (pl i)))), (hd, .inl (cI, 12, .inl pk))]) rfl ?_
      refine v_iinc F dX3_measure_42 3 rfl (v := nI (k + 1)) (lv' := [(3, .int (nI (k + 1))), (0, .ref m0), (1, .ref g), (2, .ref h)]) (nI_1 k) (Nat.le_of_ble_eq_true rfl) rfl (q := 45) rfl ?_
      refine v_goto F dX3_measure_45 (tgt := 2) rfl ?_
      refine v_lv (lv' := [(0, .ref m0), (1, .ref g), (2, .ref h), (3, .int (nI (k + 1)))]) [1, 2, 3, 0] rfl ?_
      have hV := ih d (by omega) (k + 1) (by omega)
      rw [← fil_s, ← fil_s] at hV
      exact hV
  refine v_iconst F dX3_measure_0 (v := 0) (q := 1) rfl rfl ?_
  refine v_istore_n F dX3_measure_1 (i := 3) (lv' := [(3, .int 0), (0, .ref m0), (1, .ref g), (2, .ref h)]) rfl (Nat.le_of_ble_eq_true rfl) rfl (q := 2) rfl ?_
  refine v_lv (lv' := [(0, .ref m0), (1, .ref g), (2, .ref h), (3, .int 0)]) [1, 2, 3, 0] rfl ?_
  have hV := L2 N 0 (by omega)
  rw [fil_0, fil_0] at hV
  exact hV

set_option maxHeartbeats 4000000 in
set_option maxRecDepth 100000 in
theorem c_X3_measureSpacing (m0 ma mb mc : Nat) (pu be nr : Nat → Int32) (h ha hb hc hd : Nat) (px py : Nat → Int32) (pl : Nat → Nat) (pk : Nat → Int32) (N M : Nat) (sp : Int32) (P : POK px py pl pk N) (hs : 0 ≤ sp.toInt ∧ sp.toInt ≤ 40) : Ct l D (TY cI cJ cZ) yX3_measureSpacing cX3_measureSpacing 7 none 0 0 0 0 [.ref m0, .ref h, .int sp] [(m0, .inr (3, [.ref ma, .ref mb, .ref mc])), (ma, .inl (cI, 12, .inl pu)), (mb, .inl (cI, 12, .inl be)), (mc, .inl (cI, 12, .inl nr)), (h, .inr (5, [.ref ha, .ref hb, .ref hc, .ref hd, .int (nI M), .int (nI N)])), (ha, .inl (cI, 12, .inl px)), (hb, .inl (cI, 12, .inl py)), (hc, .inl (cI, 12, .inl (fun i => nI (pl i)))), (hd, .inl (cI, 12, .inl pk))] (fun r w => r = none ∧ w = [(m0, .inr (3, [.ref ma, .ref mb, .ref mc])), (ma, .inl (cI, 12, .inl pu)), (mb, .inl (cI, 12, .inl be)), (mc, .inl (cI, 12, .inl (fil (fun i => nI (nrM px py sp i N)) nr N))), (h, .inr (5, [.ref ha, .ref hb, .ref hc, .ref hd, .int (nI M), .int (nI N)])), (ha, .inl (cI, 12, .inl px)), (hb, .inl (cI, 12, .inl py)), (hc, .inl (cI, 12, .inl (fun i => nI (pl i)))), (hd, .inl (cI, 12, .inl pk))]) := by
  refine Ct.ofV (by decide) (Nat.le_of_ble_eq_true rfl) ?_
  intro p e s m args below meth c A R Q F hnm hcs0 hE
  refine v_lv (lv' := [(0, .ref m0), (1, .ref h), (2, .int sp)]) [0, 1, 2] rfl ?_
  have hN12 := P.1
  have L2 : ∀ (d k : Nat), k + d = N → V p l e R s m args below meth c D A 7 0 0 Q 2 [(0, .ref m0), (1, .ref h), (2, .int sp), (3, .int (nI k))] [] [(m0, .inr (3, [.ref ma, .ref mb, .ref mc])), (ma, .inl (cI, 12, .inl pu)), (mb, .inl (cI, 12, .inl be)), (mc, .inl (cI, 12, .inl (fil (fun i => nI (nrM px py sp i N)) nr k))), (h, .inr (5, [.ref ha, .ref hb, .ref hc, .ref hd, .int (nI M), .int (nI N)])), (ha, .inl (cI, 12, .inl px)), (hb, .inl (cI, 12, .inl py)), (hc, .inl (cI, 12, .inl (fun i => nI (pl i)))), (hd, .inl (cI, 12, .inl pk))] := by
    intro d
    induction d using Nat.strongRecOn with
    | _ d ih => ?_
    intro k hk
    refine v_iload_n F dX3_measureSpacing_2 (i := 3) rfl 3 rfl (q := 3) rfl ?_
    refine v_aload_n F dX3_measureSpacing_3 (i := 1) rfl 1 rfl (q := 4) rfl ?_
    refine gt_X3_21 F dX3_measureSpacing_4 4 rfl rfl (q := 7) rfl ?_
    refine v_icmp_ge F dX3_measureSpacing_7 (tgt := 109) rfl (q := 10) rfl (fun c7 => ?_) (fun c7 => ?_)
    · skip
      rw [nI_leI (by omega) (by omega)] at c7
      have hkn : k = N := by omega
      subst hkn
      exact hE dX3_measureSpacing_109 (Nat.zero_le _) (Nat.zero_le _) ⟨⟨rfl, rfl⟩, Nat.le_of_ble_eq_true rfl⟩
    · skip
      rw [nI_leI (by omega) (by omega)] at c7
      obtain ⟨d, rfl⟩ : ∃ d2, d = d2 + 1 := ⟨d - 1, by omega⟩
      have hkn : k < N := by omega
      refine v_aload_n F dX3_measureSpacing_10 (i := 0) rfl 0 rfl (q := 11) rfl ?_
      refine gt_X3_18 F dX3_measureSpacing_11 0 rfl rfl (q := 14) rfl ?_
      refine v_iload_n F dX3_measureSpacing_14 (i := 3) rfl 3 rfl (q := 15) rfl ?_
      refine v_iconst F dX3_measureSpacing_15 (v := 0) (q := 16) rfl rfl ?_
      refine v_iastN F 3 0 rfl rfl (j := k) (by omega) (by decide) dX3_measureSpacing_16 (q := 17) rfl ?_
      refine v_ws (ws' := [(m0, .inr (3, [.ref ma, .ref mb, .ref mc])), (ma, .inl (cI, 12, .inl pu)), (mb, .inl (cI, 12, .inl be)), (mc, .inl (cI, 12, .inl (upd (fil (fun i => nI (nrM px py sp i N)) nr k) k 0))), (h, .inr (5, [.ref ha, .ref hb, .ref hc, .ref hd, .int (nI M), .int (nI N)])), (ha, .inl (cI, 12, .inl px)), (hb, .inl (cI, 12, .inl py)), (hc, .inl (cI, 12, .inl (fun i => nI (pl i)))), (hd, .inl (cI, 12, .inl pk))]) rfl ?_
      refine v_iconst F dX3_measureSpacing_17 (v := 0) (q := 18) rfl rfl ?_
      refine v_istore F dX3_measureSpacing_18 (lv' := [(4, .int 0), (0, .ref m0), (1, .ref h), (2, .int sp), (3, .int (nI k))]) (Nat.le_of_ble_eq_true rfl) rfl (q := 20) rfl ?_
      have L20 : ∀ (d2 j : Nat), j + d2 = N → V p l e R s m args below meth c D A 7 0 0 Q 20 [(0, .ref m0), (1, .ref h), (2, .int sp), (3, .int (nI k)), (4, .int (nI j))] [] [(m0, .inr (3, [.ref ma, .ref mb, .ref mc])), (ma, .inl (cI, 12, .inl pu)), (mb, .inl (cI, 12, .inl be)), (mc, .inl (cI, 12, .inl (upd (fil (fun i => nI (nrM px py sp i N)) nr k) k (nI (nrM px py sp k j))))), (h, .inr (5, [.ref ha, .ref hb, .ref hc, .ref hd, .int (nI M), .int (nI N)])), (ha, .inl (cI, 12, .inl px)), (hb, .inl (cI, 12, .inl py)), (hc, .inl (cI, 12, .inl (fun i => nI (pl i)))), (hd, .inl (cI, 12, .inl pk))] := by
        intro d2
        induction d2 using Nat.strongRecOn with
        | _ d2 ih2 => ?_
        intro j hj
        refine v_iload F dX3_measureSpacing_20 4 rfl (q := 22) rfl ?_
        refine v_aload_n F dX3_measureSpacing_22 (i := 1) rfl 1 rfl (q := 23) rfl ?_
        refine gt_X3_21 F dX3_measureSpacing_23 4 rfl rfl (q := 26) rfl ?_
        refine v_icmp_ge F dX3_measureSpacing_26 (tgt := 103) rfl (q := 29) rfl (fun c26 => ?_) (fun c26 => ?_)
        · skip
          rw [nI_leI (by omega) (by omega)] at c26
          have hjn : j = N := by omega
          subst hjn
          refine v_iinc F dX3_measureSpacing_103 3 rfl (v := nI (k + 1)) (lv' := [(3, .int (nI (k + 1))), (0, .ref m0), (1, .ref h), (2, .int sp), (4, .int (nI j))]) (nI_1 k) (Nat.le_of_ble_eq_true rfl) rfl (q := 106) rfl ?_
          refine v_goto F dX3_measureSpacing_106 (tgt := 2) rfl ?_
          refine v_lv (lv' := [(0, .ref m0), (1, .ref h), (2, .int sp), (3, .int (nI (k + 1)))]) [1, 2, 3, 0] rfl ?_
          have hV := ih d (by omega) (k + 1) (by omega)
          rw [← fil_s] at hV
          exact hV
        · skip
          rw [nI_leI (by omega) (by omega)] at c26
          obtain ⟨d2, rfl⟩ : ∃ d3, d2 = d3 + 1 := ⟨d2 - 1, by omega⟩
          have hjn : j < N := by omega
          refine v_aload_n F dX3_measureSpacing_29 (i := 1) rfl 1 rfl (q := 30) rfl ?_
          refine gt_X3_39 F dX3_measureSpacing_30 4 rfl rfl (q := 33) rfl ?_
          refine v_iload_n F dX3_measureSpacing_33 (i := 3) rfl 3 rfl (q := 34) rfl ?_
          refine v_ialdN F 5 0 rfl rfl (j := k) (by omega) (by decide) dX3_measureSpacing_34 (q := 35) rfl ?_
          refine v_aload_n F dX3_measureSpacing_35 (i := 1) rfl 1 rfl (q := 36) rfl ?_
          refine gt_X3_39 F dX3_measureSpacing_36 4 rfl rfl (q := 39) rfl ?_
          refine v_iload F dX3_measureSpacing_39 4 rfl (q := 41) rfl ?_
          refine v_ialdN F 5 0 rfl rfl (j := j) (by omega) (by decide) dX3_measureSpacing_41 (q := 42) rfl ?_
          refine v_isub F dX3_measureSpacing_42 (q := 43) rfl ?_
          refine v_istore F dX3_measureSpacing_43 (lv' := [(5, .int ((px k) - (px j))), (0, .ref m0), (1, .ref h), (2, .int sp), (3, .int (nI k)), (4, .int (nI j))]) (Nat.le_of_ble_eq_true rfl) rfl (q := 45) rfl ?_
          refine v_aload_n F dX3_measureSpacing_45 (i := 1) rfl 2 rfl (q := 46) rfl ?_
          refine gt_X3_42 F dX3_measureSpacing_46 4 rfl rfl (q := 49) rfl ?_
          refine v_iload_n F dX3_measureSpacing_49 (i := 3) rfl 4 rfl (q := 50) rfl ?_
          refine v_ialdN F 6 0 rfl rfl (j := k) (by omega) (by decide) dX3_measureSpacing_50 (q := 51) rfl ?_
          refine v_aload_n F dX3_measureSpacing_51 (i := 1) rfl 2 rfl (q := 52) rfl ?_
          refine gt_X3_42 F dX3_measureSpacing_52 4 rfl rfl (q := 55) rfl ?_
          refine v_iload F dX3_measureSpacing_55 5 rfl (q := 57) rfl ?_
          refine v_ialdN F 6 0 rfl rfl (j := j) (by omega) (by decide) dX3_measureSpacing_57 (q := 58) rfl ?_
          refine v_isub F dX3_measureSpacing_58 (q := 59) rfl ?_
          refine v_istore F dX3_measureSpacing_59 (lv' := [(6, .int ((py k) - (py j))), (5, .int ((px k) - (px j))), (0, .ref m0), (1, .ref h), (2, .int sp), (3, .int (nI k)), (4, .int (nI j))]) (Nat.le_of_ble_eq_true rfl) rfl (q := 61) rfl ?_
          refine v_iload_n F dX3_measureSpacing_61 (i := 3) rfl 5 rfl (q := 62) rfl ?_
          refine v_iload F dX3_measureSpacing_62 6 rfl (q := 64) rfl ?_
          refine v_icmp_eq F dX3_measureSpacing_64 (tgt := 97) rfl (q := 67) rfl (fun c64 => ?_) (fun c64 => ?_)
          · skip
            rw [nI_eq (by omega) (by omega)] at c64
            have hnf := near_same (px := px) (py := py) (sp := sp) c64
            refine v_iinc F dX3_measureSpacing_97 6 rfl (v := nI (j + 1)) (lv' := [(4, .int (nI (j + 1))), (6, .int ((py k) - (py j))), (5, .int ((px k) - (px j))), (0, .ref m0), (1, .ref h), (2, .int sp), (3, .int (nI k))]) (nI_1 j) (Nat.le_of_ble_eq_true rfl) rfl (q := 100) rfl ?_
            refine v_goto F dX3_measureSpacing_100 (tgt := 20) rfl ?_
            refine v_lv (lv' := [(0, .ref m0), (1, .ref h), (2, .int sp), (3, .int (nI k)), (4, .int (nI (j + 1)))]) [3, 4, 5, 6, 0] rfl ?_
            have hV := ih2 d2 (by omega) (j + 1) (by omega)
            rw [nrM_f hnf] at hV
            exact hV
          · skip
            rw [nI_eq (by omega) (by omega)] at c64
            refine v_iload F dX3_measureSpacing_67 1 rfl (q := 69) rfl ?_
            refine v_iload F dX3_measureSpacing_69 1 rfl (q := 71) rfl ?_
            refine v_imul F dX3_measureSpacing_71 (q := 72) rfl ?_
            refine v_iload F dX3_measureSpacing_72 0 rfl (q := 74) rfl ?_
            refine v_iload F dX3_measureSpacing_74 0 rfl (q := 76) rfl ?_
            refine v_imul F dX3_measureSpacing_76 (q := 77) rfl ?_
            refine v_iadd F dX3_measureSpacing_77 (q := 78) rfl ?_
            refine v_iload_n F dX3_measureSpacing_78 (i := 2) rfl 4 rfl (q := 79) rfl ?_
            refine v_iload_n F dX3_measureSpacing_79 (i := 2) rfl 4 rfl (q := 80) rfl ?_
            refine v_imul F dX3_measureSpacing_80 (q := 81) rfl ?_
            refine v_icmp_ge F dX3_measureSpacing_81 (tgt := 97) rfl (q := 84) rfl (fun c81 => ?_) (fun c81 => ?_)
            · skip
              have hnf := (near_iff P hs hkn hjn c64).mp c81
              refine v_iinc F dX3_measureSpacing_97 6 rfl (v := nI (j + 1)) (lv' := [(4, .int (nI (j + 1))), (6, .int ((py k) - (py j))), (5, .int ((px k) - (px j))), (0, .ref m0), (1, .ref h), (2, .int sp), (3, .int (nI k))]) (nI_1 j) (Nat.le_of_ble_eq_true rfl) rfl (q := 100) rfl ?_
              refine v_goto F dX3_measureSpacing_100 (tgt := 20) rfl ?_
              refine v_lv (lv' := [(0, .ref m0), (1, .ref h), (2, .int sp), (3, .int (nI k)), (4, .int (nI (j + 1)))]) [3, 4, 5, 6, 0] rfl ?_
              have hV := ih2 d2 (by omega) (j + 1) (by omega)
              rw [nrM_f hnf] at hV
              exact hV
            · skip
              have hnt : tooNear px py sp k j = true := Bool.not_eq_false _ |>.mp (fun z => c81 ((near_iff P hs hkn hjn c64).mpr z))
              refine v_aload_n F dX3_measureSpacing_84 (i := 0) rfl 2 rfl (q := 85) rfl ?_
              refine gt_X3_18 F dX3_measureSpacing_85 0 rfl rfl (q := 88) rfl ?_
              refine v_iload_n F dX3_measureSpacing_88 (i := 3) rfl 5 rfl (q := 89) rfl ?_
              refine v_dup2_11 F dX3_measureSpacing_89 rfl rfl (q := 90) rfl ?_
              refine v_ialdN F 3 0 rfl rfl (j := k) (by omega) (by decide) dX3_measureSpacing_90 (q := 91) rfl ?_
              refine v_int (y := nI (nrM px py sp k j)) (pk_us) ?_
              refine v_iconst F dX3_measureSpacing_91 (v := 1) (q := 92) rfl rfl ?_
              refine v_iload F dX3_measureSpacing_92 6 rfl (q := 94) rfl ?_
              refine v_ishl F dX3_measureSpacing_94 (q := 95) rfl ?_
              refine v_ior F dX3_measureSpacing_95 (q := 96) rfl ?_
              refine v_int (y := nI (nrM px py sp k j ||| 2 ^ j)) (ms_or (by omega)) ?_
              refine v_iastN F 3 0 rfl rfl (j := k) (by omega) (by decide) dX3_measureSpacing_96 (q := 97) rfl ?_
              refine v_ws (ws' := [(m0, .inr (3, [.ref ma, .ref mb, .ref mc])), (ma, .inl (cI, 12, .inl pu)), (mb, .inl (cI, 12, .inl be)), (mc, .inl (cI, 12, .inl (upd (upd (fil (fun i => nI (nrM px py sp i N)) nr k) k (nI (nrM px py sp k j))) k (nI (nrM px py sp k j ||| 2 ^ j))))), (h, .inr (5, [.ref ha, .ref hb, .ref hc, .ref hd, .int (nI M), .int (nI N)])), (ha, .inl (cI, 12, .inl px)), (hb, .inl (cI, 12, .inl py)), (hc, .inl (cI, 12, .inl (fun i => nI (pl i)))), (hd, .inl (cI, 12, .inl pk))]) rfl ?_
              refine v_iinc F dX3_measureSpacing_97 6 rfl (v := nI (j + 1)) (lv' := [(4, .int (nI (j + 1))), (6, .int ((py k) - (py j))), (5, .int ((px k) - (px j))), (0, .ref m0), (1, .ref h), (2, .int sp), (3, .int (nI k))]) (nI_1 j) (Nat.le_of_ble_eq_true rfl) rfl (q := 100) rfl ?_
              refine v_goto F dX3_measureSpacing_100 (tgt := 20) rfl ?_
              refine v_lv (lv' := [(0, .ref m0), (1, .ref h), (2, .int sp), (3, .int (nI k)), (4, .int (nI (j + 1)))]) [3, 4, 5, 6, 0] rfl ?_
              have hV := ih2 d2 (by omega) (j + 1) (by omega)
              rw [nrM_t hnt, ← upd2 _ _ (nI (nrM px py sp k j)) _] at hV
              exact hV
      refine v_lv (lv' := [(0, .ref m0), (1, .ref h), (2, .int sp), (3, .int (nI k)), (4, .int 0)]) [1, 2, 3, 4, 0] rfl ?_
      exact L20 N 0 (by omega)
  refine v_iconst F dX3_measureSpacing_0 (v := 0) (q := 1) rfl rfl ?_
  refine v_istore_n F dX3_measureSpacing_1 (i := 3) (lv' := [(3, .int 0), (0, .ref m0), (1, .ref h), (2, .int sp)]) rfl (Nat.le_of_ble_eq_true rfl) rfl (q := 2) rfl ?_
  refine v_lv (lv' := [(0, .ref m0), (1, .ref h), (2, .int sp), (3, .int 0)]) [1, 2, 3, 0] rfl ?_
  have hV := L2 N 0 (by omega)
  rw [fil_0] at hV
  exact hV

set_option maxHeartbeats 4000000 in
set_option maxRecDepth 100000 in
theorem c_X3_against (m0 ma mb mc : Nat) (pu be nr : Nat → Int32) (k : Nat) (sh : Int64) (hk : k < 12) : Ct l D (TY cI cJ cZ) yX3_against cX3_against 4 (some .long) 0 0 0 0 [.ref m0, .int (nI k), .long sh] [(m0, .inr (3, [.ref ma, .ref mb, .ref mc])), (ma, .inl (cI, 12, .inl pu)), (mb, .inl (cI, 12, .inl be)), (mc, .inl (cI, 12, .inl nr))] (fun r w => r = some (.long ((if 0 < sh then be k else pu k).toInt64)) ∧ w = [(m0, .inr (3, [.ref ma, .ref mb, .ref mc])), (ma, .inl (cI, 12, .inl pu)), (mb, .inl (cI, 12, .inl be)), (mc, .inl (cI, 12, .inl nr))]) := by
  refine Ct.ofL (by decide) (Nat.le_of_ble_eq_true rfl) ?_
  intro p e s m args below meth c A R Q F hnm hcs0 hE
  refine v_lv (lv' := [(0, .ref m0), (1, .int (nI k)), (2, .long sh)]) [0, 1, 2] rfl ?_
  refine v_lload_n F dX3_against_0 (i := 2) rfl 2 rfl (q := 1) rfl ?_
  refine v_lconst F dX3_against_1 (v := 0) (q := 2) rfl rfl ?_
  refine v_lcmp_le F dX3_against_2 dX3_against_3 (tgt := 16) rfl (q := 6) rfl (fun c2 => ?_) (fun c2 => ?_)
  · skip
    refine v_aload_n F dX3_against_16 (i := 0) rfl 0 rfl (q := 17) rfl ?_
    refine gt_X3_9 F dX3_against_17 0 rfl rfl (q := 20) rfl ?_
    refine v_iload_n F dX3_against_20 (i := 1) rfl 1 rfl (q := 21) rfl ?_
    refine v_ialdN F 1 0 rfl rfl (j := k) (by omega) (by decide) dX3_against_21 (q := 22) rfl ?_
    refine v_i2l F dX3_against_22 (q := 23) rfl ?_
    exact hE dX3_against_23 (Nat.zero_le _) (Nat.zero_le _) ⟨⟨by rw [if_neg (i64_nlt.mpr c2)], rfl⟩, Nat.le_of_ble_eq_true rfl⟩
  · skip
    refine v_aload_n F dX3_against_6 (i := 0) rfl 0 rfl (q := 7) rfl ?_
    refine gt_X3_15 F dX3_against_7 0 rfl rfl (q := 10) rfl ?_
    refine v_iload_n F dX3_against_10 (i := 1) rfl 1 rfl (q := 11) rfl ?_
    refine v_ialdN F 2 0 rfl rfl (j := k) (by omega) (by decide) dX3_against_11 (q := 12) rfl ?_
    refine v_i2l F dX3_against_12 (q := 13) rfl ?_
    refine v_goto F dX3_against_13 (tgt := 23) rfl ?_
    exact hE dX3_against_23 (Nat.zero_le _) (Nat.zero_le _) ⟨⟨by rw [if_pos (i64_nle.mp c2)], rfl⟩, Nat.le_of_ble_eq_true rfl⟩

set_option maxHeartbeats 4000000 in
set_option maxRecDepth 100000 in
theorem c_X3_spaced (m0 ma mb mc : Nat) (pu be nr : Nat → Int32) (nm : Nat → Nat) (B : Nat) (hB : B < 4096) (hnr : ∀ k, B.testBit k = true → nr k = nI (nm k)) : Ct l D (TY cI cJ cZ) yX3_spaced cX3_spaced 3 (some .boolean) 0 0 0 0 [.ref m0, .int (nI B)] [(m0, .inr (3, [.ref ma, .ref mb, .ref mc])), (ma, .inl (cI, 12, .inl pu)), (mb, .inl (cI, 12, .inl be)), (mc, .inl (cI, 12, .inl nr))] (fun r w => r = some (.int (bI (spB B nm))) ∧ w = [(m0, .inr (3, [.ref ma, .ref mb, .ref mc])), (ma, .inl (cI, 12, .inl pu)), (mb, .inl (cI, 12, .inl be)), (mc, .inl (cI, 12, .inl nr))]) := by
  refine Ct.ofI (ty := .boolean) (by decide) (Nat.le_of_ble_eq_true rfl) ?_
  intro p e s m args below meth c A R Q F hnm hcs0 hE
  refine v_lv (lv' := [(0, .ref m0), (1, .int (nI B))]) [0, 1] rfl ?_
  have L2 : ∀ (d k : Nat), k + d = 12 → (∀ j, j < k → B.testBit j = true → B &&& nm j = 0) → V p l e R s m args below meth c D A 3 0 0 Q 2 [(0, .ref m0), (1, .int (nI B)), (2, .int (nI k))] [] [(m0, .inr (3, [.ref ma, .ref mb, .ref mc])), (ma, .inl (cI, 12, .inl pu)), (mb, .inl (cI, 12, .inl be)), (mc, .inl (cI, 12, .inl nr))] := by
    intro d
    induction d using Nat.strongRecOn with
    | _ d ih => ?_
    intro k hk hI
    refine v_iload_n F dX3_spaced_2 (i := 2) rfl 2 rfl (q := 3) rfl ?_
    refine v_bipush F dX3_spaced_3 (v := 12) (q := 5) rfl rfl ?_
    refine v_icmp_ge F dX3_spaced_5 (tgt := 35) rfl (q := 8) rfl (fun c5 => ?_) (fun c5 => ?_)
    · skip
      rw [show (12 : Int32) = nI 12 from rfl, nI_leI (by omega) (by omega)] at c5
      have hkn : k = 12 := by omega
      subst hkn
      refine v_iconst F dX3_spaced_35 (v := 1) (q := 36) rfl rfl ?_
      exact hE rfl dX3_spaced_36 (Nat.zero_le _) (Nat.zero_le _) ⟨⟨by rw [bI_o.mpr (spB_iff.mpr hI)], rfl⟩, Nat.le_of_ble_eq_true rfl⟩
    · skip
      rw [show (12 : Int32) = nI 12 from rfl, nI_leI (by omega) (by omega)] at c5
      obtain ⟨d, rfl⟩ : ∃ d2, d = d2 + 1 := ⟨d - 1, by omega⟩
      refine v_iload_n F dX3_spaced_8 (i := 1) rfl 1 rfl (q := 9) rfl ?_
      refine v_iload_n F dX3_spaced_9 (i := 2) rfl 2 rfl (q := 10) rfl ?_
      refine v_ishr F dX3_spaced_10 (q := 11) rfl ?_
      refine v_iconst F dX3_spaced_11 (v := 1) (q := 12) rfl rfl ?_
      refine v_iand F dX3_spaced_12 (q := 13) rfl ?_
      refine v_int (y := bI (B.testBit k)) (sh_bit hB (by omega)) ?_
      refine v_if_eq F dX3_spaced_13 (tgt := 29) rfl (q := 16) rfl (fun c13 => ?_) (fun c13 => ?_)
      · skip
        rw [bI_z] at c13
        have hI2 : ∀ j, j < k + 1 → B.testBit j = true → B &&& nm j = 0 := fun j hj hb => by
          rcases Nat.lt_or_ge j k with q | q
          · exact hI j q hb
          · rw [show j = k by omega, c13] at hb; cases hb
        refine v_iinc F dX3_spaced_29 2 rfl (v := nI (k + 1)) (lv' := [(2, .int (nI (k + 1))), (0, .ref m0), (1, .int (nI B))]) (nI_1 k) (Nat.le_of_ble_eq_true rfl) rfl (q := 32) rfl ?_
        refine v_goto F dX3_spaced_32 (tgt := 2) rfl ?_
        refine v_lv (lv' := [(0, .ref m0), (1, .int (nI B)), (2, .int (nI (k + 1)))]) [1, 2, 0] rfl ?_
        exact ih d (by omega) (k + 1) (by omega) hI2
      · skip
        rw [bI_nz] at c13
        have hle : B &&& nm k ≤ B := Nat.and_le_left
        refine v_iload_n F dX3_spaced_16 (i := 1) rfl 1 rfl (q := 17) rfl ?_
        refine v_aload_n F dX3_spaced_17 (i := 0) rfl 0 rfl (q := 18) rfl ?_
        refine gt_X3_18 F dX3_spaced_18 0 rfl rfl (q := 21) rfl ?_
        refine v_iload_n F dX3_spaced_21 (i := 2) rfl 2 rfl (q := 22) rfl ?_
        refine v_ialdN F 3 0 rfl rfl (j := k) (by omega) (by decide) dX3_spaced_22 (q := 23) rfl ?_
        refine v_int (y := nI (nm k)) (hnr k c13) ?_
        refine v_iand F dX3_spaced_23 (q := 24) rfl ?_
        refine v_int (y := nI (B &&& nm k)) (nI_and _ _) ?_
        refine v_if_eq F dX3_spaced_24 (tgt := 29) rfl (q := 27) rfl (fun c24 => ?_) (fun c24 => ?_)
        · skip
          rw [show (0 : Int32) = nI 0 from rfl, nI_eq (by omega) (by omega)] at c24
          have hI2 : ∀ j, j < k + 1 → B.testBit j = true → B &&& nm j = 0 := fun j hj hb => by
            rcases Nat.lt_or_ge j k with q | q
            · exact hI j q hb
            · rw [show j = k by omega]; exact c24
          refine v_iinc F dX3_spaced_29 2 rfl (v := nI (k + 1)) (lv' := [(2, .int (nI (k + 1))), (0, .ref m0), (1, .int (nI B))]) (nI_1 k) (Nat.le_of_ble_eq_true rfl) rfl (q := 32) rfl ?_
          refine v_goto F dX3_spaced_32 (tgt := 2) rfl ?_
          refine v_lv (lv' := [(0, .ref m0), (1, .int (nI B)), (2, .int (nI (k + 1)))]) [1, 2, 0] rfl ?_
          exact ih d (by omega) (k + 1) (by omega) hI2
        · skip
          rw [show (0 : Int32) = nI 0 from rfl, nI_eq (by omega) (by omega)] at c24
          refine v_iconst F dX3_spaced_27 (v := 0) (q := 28) rfl rfl ?_
          exact hE rfl dX3_spaced_28 (Nat.zero_le _) (Nat.zero_le _) ⟨⟨by rw [spB_f (by omega) c13 c24], rfl⟩, Nat.le_of_ble_eq_true rfl⟩
  refine v_iconst F dX3_spaced_0 (v := 0) (q := 1) rfl rfl ?_
  refine v_istore_n F dX3_spaced_1 (i := 2) (lv' := [(2, .int 0), (0, .ref m0), (1, .int (nI B))]) rfl (Nat.le_of_ble_eq_true rfl) rfl (q := 2) rfl ?_
  refine v_lv (lv' := [(0, .ref m0), (1, .int (nI B)), (2, .int 0)]) [1, 2, 0] rfl ?_
  exact L2 12 0 (by omega) (fun j hj => absurd hj (Nat.not_lt_zero _))

set_option maxHeartbeats 4000000 in
set_option maxRecDepth 100000 in
theorem c_X1_goThrough (v0 : Nat) (dp : Nat) (b lf mo us be e0 : Int) (m1 : Nat) (he : 1 ≤ e0 ∧ e0 ≤ 10000) (hbe : 0 ≤ be ∧ be ≤ 6000) (hm : m1 ≤ 200) (hlf : 0 ≤ lf ∧ lf ≤ 10000) (hmo : 0 ≤ mo ∧ mo ≤ 200) : Ct l D (TY cI cJ cZ) yX1_goThrough cX1_goThrough 5 (some .boolean) 1 14 0 0 [.ref v0, .int (zI be), .int (zI e0), .int (nI m1)] [(v0, .inr (1, [.int (nI dp), .int (zI b), .int (zI lf), .int (zI mo), .int (zI us)]))] (fun r w => r = some (.int (bI (dvU be e0 m1 (b, lf, mo, us)).1)) ∧ w = [(v0, .inr (1, [.int (nI (if (dvU be e0 m1 (b, lf, mo, us)).1 then dp + 1 else dp)), .int (zI (dvU be e0 m1 (b, lf, mo, us)).2.1), .int (zI (dvU be e0 m1 (b, lf, mo, us)).2.2.1), .int (zI (dvU be e0 m1 (b, lf, mo, us)).2.2.2.1), .int (zI (dvU be e0 m1 (b, lf, mo, us)).2.2.2.2)]))]) := by
  refine Ct.ofI (ty := .boolean) (by decide) (Nat.le_of_ble_eq_true rfl) ?_
  intro p e s m args below meth c A R Q F hnm hcs0 hE
  refine v_lv (lv' := [(0, .ref v0), (1, .int (zI be)), (2, .int (zI e0)), (3, .int (nI m1))]) [0, 1, 2, 3] rfl ?_
  have L3 : ∀ (d k : Nat) (l2 : Int), k + d = m1 → dvF be e0 m1 0 lf = dvF be e0 d k l2 → 0 ≤ l2 → l2 ≤ 16000 → V p l e R s m args below meth c D A 5 0 0 Q 3 [(0, .ref v0), (1, .int (zI be)), (2, .int (zI e0)), (3, .int (nI m1)), (4, .int (nI k))] [] [(v0, .inr (1, [.int (nI dp), .int (zI b), .int (zI l2), .int (zI mo), .int (zI us)]))] := by
    intro d
    induction d using Nat.strongRecOn with
    | _ d ih => ?_
    intro k l2 hk hf h1 h2
    refine v_iload F dX1_goThrough_3 4 rfl (q := 5) rfl ?_
    refine v_iload_n F dX1_goThrough_5 (i := 3) rfl 3 rfl (q := 6) rfl ?_
    refine v_icmp_ge F dX1_goThrough_6 (tgt := 33) rfl (q := 9) rfl (fun c6 => ?_) (fun c6 => ?_)
    · skip
      rw [nI_leI (by omega) (by omega)] at c6
      have hd0 : d = 0 := by omega
      subst hd0
      simp only [dvF] at hf
      refine v_aload_n F dX1_goThrough_33 (i := 0) rfl 0 rfl (q := 34) rfl ?_
      refine v_dup F dX1_goThrough_34 rfl (q := 35) rfl ?_
      refine gt_X1_13 F dX1_goThrough_35 0 rfl rfl (q := 38) rfl ?_
      refine v_iload F dX1_goThrough_38 4 rfl (q := 40) rfl ?_
      refine v_iadd F dX1_goThrough_40 (q := 41) rfl ?_
      refine v_int (y := zI (b + (k : Nat))) (by rw [zI_nat, zI_add]) ?_
      refine pt_X1_13 F dX1_goThrough_41 0 rfl (Nat.le_of_ble_eq_true rfl) (q := 44) rfl ?_
      refine v_ws (ws' := [(v0, .inr (1, [.int (nI dp), .int (zI (b + (k : Nat))), .int (zI l2), .int (zI mo), .int (zI us)]))]) rfl ?_
      refine v_aload_n F dX1_goThrough_44 (i := 0) rfl 0 rfl (q := 45) rfl ?_
      refine v_aload_n F dX1_goThrough_45 (i := 0) rfl 0 rfl (q := 46) rfl ?_
      refine gt_X1_19 F dX1_goThrough_46 0 rfl rfl (q := 49) rfl ?_
      refine v_iload F dX1_goThrough_49 4 rfl (q := 51) rfl ?_
      refine v_mmax F ml_X1_35 sm_Mmax inS_J9 co_Mmax ⟨Nat.zero_le _, Nat.zero_le _⟩ dX1_goThrough_51 (Nat.le_of_ble_eq_true rfl) (Nat.le_of_ble_eq_true rfl) (q := 54) rfl ?_
      refine v_int (y := zI (max mo (k : Nat))) (mx_k hmo (by omega)) ?_
      refine pt_X1_19 F dX1_goThrough_54 0 rfl (Nat.le_of_ble_eq_true rfl) (q := 57) rfl ?_
      refine v_ws (ws' := [(v0, .inr (1, [.int (nI dp), .int (zI (b + (k : Nat))), .int (zI l2), .int (zI (max mo (k : Nat))), .int (zI us)]))]) rfl ?_
      refine v_aload_n F dX1_goThrough_57 (i := 0) rfl 0 rfl (q := 58) rfl ?_
      refine gt_X1_16 F dX1_goThrough_58 0 rfl rfl (q := 61) rfl ?_
      refine v_iload_n F dX1_goThrough_61 (i := 1) rfl 1 rfl (q := 62) rfl ?_
      refine v_icmp_ge F dX1_goThrough_62 (tgt := 67) rfl (q := 65) rfl (fun c62 => ?_) (fun c62 => ?_)
      · skip
        rw [zI_le (by omega) (by omega) (by omega) (by omega)] at c62
        refine v_aload_n F dX1_goThrough_67 (i := 0) rfl 0 rfl (q := 68) rfl ?_
        refine v_dup F dX1_goThrough_68 rfl (q := 69) rfl ?_
        refine gt_X1_16 F dX1_goThrough_69 0 rfl rfl (q := 72) rfl ?_
        refine v_iload_n F dX1_goThrough_72 (i := 1) rfl 1 rfl (q := 73) rfl ?_
        refine v_isub F dX1_goThrough_73 (q := 74) rfl ?_
        refine v_int (y := zI (l2 - be)) (zI_sub _ _) ?_
        refine pt_X1_16 F dX1_goThrough_74 0 rfl (Nat.le_of_ble_eq_true rfl) (q := 77) rfl ?_
        refine v_ws (ws' := [(v0, .inr (1, [.int (nI dp), .int (zI (b + (k : Nat))), .int (zI (l2 - be)), .int (zI (max mo (k : Nat))), .int (zI us)]))]) rfl ?_
        refine v_aload_n F dX1_goThrough_77 (i := 0) rfl 0 rfl (q := 78) rfl ?_
        refine v_dup F dX1_goThrough_78 rfl (q := 79) rfl ?_
        refine gt_X1_22 F dX1_goThrough_79 0 rfl rfl (q := 82) rfl ?_
        refine v_iload_n F dX1_goThrough_82 (i := 1) rfl 1 rfl (q := 83) rfl ?_
        refine v_iadd F dX1_goThrough_83 (q := 84) rfl ?_
        refine v_int (y := zI (us + be)) (zI_add _ _) ?_
        refine pt_X1_22 F dX1_goThrough_84 0 rfl (Nat.le_of_ble_eq_true rfl) (q := 87) rfl ?_
        refine v_ws (ws' := [(v0, .inr (1, [.int (nI dp), .int (zI (b + (k : Nat))), .int (zI (l2 - be)), .int (zI (max mo (k : Nat))), .int (zI (us + be))]))]) rfl ?_
        refine v_aload_n F dX1_goThrough_87 (i := 0) rfl 0 rfl (q := 88) rfl ?_
        refine v_dup F dX1_goThrough_88 rfl (q := 89) rfl ?_
        refine gt_X1_7 F dX1_goThrough_89 0 rfl rfl (q := 92) rfl ?_
        refine v_iconst F dX1_goThrough_92 (v := 1) (q := 93) rfl rfl ?_
        refine v_iadd F dX1_goThrough_93 (q := 94) rfl ?_
        refine v_int (y := nI (dp + 1)) (nI_1 dp) ?_
        refine pt_X1_7 F dX1_goThrough_94 0 rfl (Nat.le_of_ble_eq_true rfl) (q := 97) rfl ?_
        refine v_ws (ws' := [(v0, .inr (1, [.int (nI (dp + 1)), .int (zI (b + (k : Nat))), .int (zI (l2 - be)), .int (zI (max mo (k : Nat))), .int (zI (us + be))]))]) rfl ?_
        refine v_iconst F dX1_goThrough_97 (v := 1) (q := 98) rfl rfl ?_
        exact hE rfl dX1_goThrough_98 (Nat.zero_le _) (Nat.zero_le _) ⟨⟨by rw [(dvU_t hf (by omega) : dvU be e0 m1 (b, lf, mo, us) = _)]; rfl, by rw [(dvU_t hf (by omega) : dvU be e0 m1 (b, lf, mo, us) = _)]; rfl⟩, Nat.le_of_ble_eq_true rfl⟩
      · skip
        rw [zI_le (by omega) (by omega) (by omega) (by omega)] at c62
        refine v_iconst F dX1_goThrough_65 (v := 0) (q := 66) rfl rfl ?_
        exact hE rfl dX1_goThrough_66 (Nat.zero_le _) (Nat.zero_le _) ⟨⟨by rw [(dvU_f hf (by omega) : dvU be e0 m1 (b, lf, mo, us) = _)]; rfl, by rw [(dvU_f hf (by omega) : dvU be e0 m1 (b, lf, mo, us) = _)]; rfl⟩, Nat.le_of_ble_eq_true rfl⟩
    · skip
      rw [nI_leI (by omega) (by omega)] at c6
      obtain ⟨d, rfl⟩ : ∃ d2, d = d2 + 1 := ⟨d - 1, by omega⟩
      simp only [dvF] at hf
      refine v_aload_n F dX1_goThrough_9 (i := 0) rfl 0 rfl (q := 10) rfl ?_
      refine gt_X1_16 F dX1_goThrough_10 0 rfl rfl (q := 13) rfl ?_
      refine v_iload_n F dX1_goThrough_13 (i := 1) rfl 1 rfl (q := 14) rfl ?_
      refine v_icmp_ge F dX1_goThrough_14 (tgt := 33) rfl (q := 17) rfl (fun c14 => ?_) (fun c14 => ?_)
      · skip
        rw [zI_le (by omega) (by omega) (by omega) (by omega)] at c14
        rw [if_neg (by omega)] at hf
        refine v_aload_n F dX1_goThrough_33 (i := 0) rfl 0 rfl (q := 34) rfl ?_
        refine v_dup F dX1_goThrough_34 rfl (q := 35) rfl ?_
        refine gt_X1_13 F dX1_goThrough_35 0 rfl rfl (q := 38) rfl ?_
        refine v_iload F dX1_goThrough_38 4 rfl (q := 40) rfl ?_
        refine v_iadd F dX1_goThrough_40 (q := 41) rfl ?_
        refine v_int (y := zI (b + (k : Nat))) (by rw [zI_nat, zI_add]) ?_
        refine pt_X1_13 F dX1_goThrough_41 0 rfl (Nat.le_of_ble_eq_true rfl) (q := 44) rfl ?_
        refine v_ws (ws' := [(v0, .inr (1, [.int (nI dp), .int (zI (b + (k : Nat))), .int (zI l2), .int (zI mo), .int (zI us)]))]) rfl ?_
        refine v_aload_n F dX1_goThrough_44 (i := 0) rfl 0 rfl (q := 45) rfl ?_
        refine v_aload_n F dX1_goThrough_45 (i := 0) rfl 0 rfl (q := 46) rfl ?_
        refine gt_X1_19 F dX1_goThrough_46 0 rfl rfl (q := 49) rfl ?_
        refine v_iload F dX1_goThrough_49 4 rfl (q := 51) rfl ?_
        refine v_mmax F ml_X1_35 sm_Mmax inS_J9 co_Mmax ⟨Nat.zero_le _, Nat.zero_le _⟩ dX1_goThrough_51 (Nat.le_of_ble_eq_true rfl) (Nat.le_of_ble_eq_true rfl) (q := 54) rfl ?_
        refine v_int (y := zI (max mo (k : Nat))) (mx_k hmo (by omega)) ?_
        refine pt_X1_19 F dX1_goThrough_54 0 rfl (Nat.le_of_ble_eq_true rfl) (q := 57) rfl ?_
        refine v_ws (ws' := [(v0, .inr (1, [.int (nI dp), .int (zI (b + (k : Nat))), .int (zI l2), .int (zI (max mo (k : Nat))), .int (zI us)]))]) rfl ?_
        refine v_aload_n F dX1_goThrough_57 (i := 0) rfl 0 rfl (q := 58) rfl ?_
        refine gt_X1_16 F dX1_goThrough_58 0 rfl rfl (q := 61) rfl ?_
        refine v_iload_n F dX1_goThrough_61 (i := 1) rfl 1 rfl (q := 62) rfl ?_
        refine v_icmp_ge F dX1_goThrough_62 (tgt := 67) rfl (q := 65) rfl (fun c62 => ?_) (fun c62 => ?_)
        · skip
          rw [zI_le (by omega) (by omega) (by omega) (by omega)] at c62
          refine v_aload_n F dX1_goThrough_67 (i := 0) rfl 0 rfl (q := 68) rfl ?_
          refine v_dup F dX1_goThrough_68 rfl (q := 69) rfl ?_
          refine gt_X1_16 F dX1_goThrough_69 0 rfl rfl (q := 72) rfl ?_
          refine v_iload_n F dX1_goThrough_72 (i := 1) rfl 1 rfl (q := 73) rfl ?_
          refine v_isub F dX1_goThrough_73 (q := 74) rfl ?_
          refine v_int (y := zI (l2 - be)) (zI_sub _ _) ?_
          refine pt_X1_16 F dX1_goThrough_74 0 rfl (Nat.le_of_ble_eq_true rfl) (q := 77) rfl ?_
          refine v_ws (ws' := [(v0, .inr (1, [.int (nI dp), .int (zI (b + (k : Nat))), .int (zI (l2 - be)), .int (zI (max mo (k : Nat))), .int (zI us)]))]) rfl ?_
          refine v_aload_n F dX1_goThrough_77 (i := 0) rfl 0 rfl (q := 78) rfl ?_
          refine v_dup F dX1_goThrough_78 rfl (q := 79) rfl ?_
          refine gt_X1_22 F dX1_goThrough_79 0 rfl rfl (q := 82) rfl ?_
          refine v_iload_n F dX1_goThrough_82 (i := 1) rfl 1 rfl (q := 83) rfl ?_
          refine v_iadd F dX1_goThrough_83 (q := 84) rfl ?_
          refine v_int (y := zI (us + be)) (zI_add _ _) ?_
          refine pt_X1_22 F dX1_goThrough_84 0 rfl (Nat.le_of_ble_eq_true rfl) (q := 87) rfl ?_
          refine v_ws (ws' := [(v0, .inr (1, [.int (nI dp), .int (zI (b + (k : Nat))), .int (zI (l2 - be)), .int (zI (max mo (k : Nat))), .int (zI (us + be))]))]) rfl ?_
          refine v_aload_n F dX1_goThrough_87 (i := 0) rfl 0 rfl (q := 88) rfl ?_
          refine v_dup F dX1_goThrough_88 rfl (q := 89) rfl ?_
          refine gt_X1_7 F dX1_goThrough_89 0 rfl rfl (q := 92) rfl ?_
          refine v_iconst F dX1_goThrough_92 (v := 1) (q := 93) rfl rfl ?_
          refine v_iadd F dX1_goThrough_93 (q := 94) rfl ?_
          refine v_int (y := nI (dp + 1)) (nI_1 dp) ?_
          refine pt_X1_7 F dX1_goThrough_94 0 rfl (Nat.le_of_ble_eq_true rfl) (q := 97) rfl ?_
          refine v_ws (ws' := [(v0, .inr (1, [.int (nI (dp + 1)), .int (zI (b + (k : Nat))), .int (zI (l2 - be)), .int (zI (max mo (k : Nat))), .int (zI (us + be))]))]) rfl ?_
          refine v_iconst F dX1_goThrough_97 (v := 1) (q := 98) rfl rfl ?_
          exact hE rfl dX1_goThrough_98 (Nat.zero_le _) (Nat.zero_le _) ⟨⟨by rw [(dvU_t hf (by omega) : dvU be e0 m1 (b, lf, mo, us) = _)]; rfl, by rw [(dvU_t hf (by omega) : dvU be e0 m1 (b, lf, mo, us) = _)]; rfl⟩, Nat.le_of_ble_eq_true rfl⟩
        · skip
          rw [zI_le (by omega) (by omega) (by omega) (by omega)] at c62
          refine v_iconst F dX1_goThrough_65 (v := 0) (q := 66) rfl rfl ?_
          exact hE rfl dX1_goThrough_66 (Nat.zero_le _) (Nat.zero_le _) ⟨⟨by rw [(dvU_f hf (by omega) : dvU be e0 m1 (b, lf, mo, us) = _)]; rfl, by rw [(dvU_f hf (by omega) : dvU be e0 m1 (b, lf, mo, us) = _)]; rfl⟩, Nat.le_of_ble_eq_true rfl⟩
      · skip
        rw [zI_le (by omega) (by omega) (by omega) (by omega)] at c14
        rw [if_pos (by omega)] at hf
        refine v_iinc F dX1_goThrough_17 4 rfl (v := nI (k + 1)) (lv' := [(4, .int (nI (k + 1))), (0, .ref v0), (1, .int (zI be)), (2, .int (zI e0)), (3, .int (nI m1))]) (nI_1 k) (Nat.le_of_ble_eq_true rfl) rfl (q := 20) rfl ?_
        refine v_aload_n F dX1_goThrough_20 (i := 0) rfl 1 rfl (q := 21) rfl ?_
        refine v_dup F dX1_goThrough_21 rfl (q := 22) rfl ?_
        refine gt_X1_16 F dX1_goThrough_22 0 rfl rfl (q := 25) rfl ?_
        refine v_iload_n F dX1_goThrough_25 (i := 2) rfl 3 rfl (q := 26) rfl ?_
        refine v_iadd F dX1_goThrough_26 (q := 27) rfl ?_
        refine v_int (y := zI (l2 + e0)) (zI_add _ _) ?_
        refine pt_X1_16 F dX1_goThrough_27 0 rfl (Nat.le_of_ble_eq_true rfl) (q := 30) rfl ?_
        refine v_ws (ws' := [(v0, .inr (1, [.int (nI dp), .int (zI b), .int (zI (l2 + e0)), .int (zI mo), .int (zI us)]))]) rfl ?_
        refine v_goto F dX1_goThrough_30 (tgt := 3) rfl ?_
        refine v_lv (lv' := [(0, .ref v0), (1, .int (zI be)), (2, .int (zI e0)), (3, .int (nI m1)), (4, .int (nI (k + 1)))]) [1, 2, 3, 4, 0] rfl ?_
        exact ih d (by omega) (k + 1) (l2 + e0) (by omega) hf (by omega) (by omega)
  refine v_iconst F dX1_goThrough_0 (v := 0) (q := 1) rfl rfl ?_
  refine v_istore F dX1_goThrough_1 (lv' := [(4, .int 0), (0, .ref v0), (1, .int (zI be)), (2, .int (zI e0)), (3, .int (nI m1))]) (Nat.le_of_ble_eq_true rfl) rfl (q := 3) rfl ?_
  refine v_lv (lv' := [(0, .ref v0), (1, .int (zI be)), (2, .int (zI e0)), (3, .int (nI m1)), (4, .int 0)]) [1, 2, 3, 4, 0] rfl ?_
  exact L3 m1 0 lf (by omega) rfl hlf.1 (by omega)

set_option maxHeartbeats 4000000 in
set_option maxRecDepth 100000 in
theorem c_X1_run (v0 : Nat) (dp0 b0 lf0 mo0 us0 : Int32) (g ga gb gc : Nat) (th sd tp : Nat → Int32) (n : Nat) (sc : Int32) (u0 : Nat) (e0 : Int) (m1 : Nat) (G : GOK th sd tp n sc) (hu : u0 ≤ 100) (he : 1 ≤ e0 ∧ e0 ≤ 10000) (hm : m1 ≤ 200) : Ct l D (TY cI cJ cZ) yX1_run cX1_run 7 none 3 66 0 0 [.ref v0, .ref g, .int (nI u0), .int (zI e0), .int (nI m1)] [(v0, .inr (1, [.int dp0, .int b0, .int lf0, .int mo0, .int us0])), (g, .inr (2, [.ref ga, .ref gb, .ref gc, .int (nI n), .int sc])), (ga, .inl (cI, 6, .inl th)), (gb, .inl (cI, 6, .inl sd)), (gc, .inl (cI, 6, .inl tp))] (fun r w => r = none ∧ w = [(v0, .inr (1, [.int (nI (dvR (gBE th sd tp n sc) e0 m1 u0 0 (0, 0, 0, 0)).1), .int (zI (dvR (gBE th sd tp n sc) e0 m1 u0 0 (0, 0, 0, 0)).2.1), .int (zI (dvR (gBE th sd tp n sc) e0 m1 u0 0 (0, 0, 0, 0)).2.2.1), .int (zI (dvR (gBE th sd tp n sc) e0 m1 u0 0 (0, 0, 0, 0)).2.2.2.1), .int (zI (dvR (gBE th sd tp n sc) e0 m1 u0 0 (0, 0, 0, 0)).2.2.2.2)])), (g, .inr (2, [.ref ga, .ref gb, .ref gc, .int (nI n), .int sc])), (ga, .inl (cI, 6, .inl th)), (gb, .inl (cI, 6, .inl sd)), (gc, .inl (cI, 6, .inl tp))]) := by
  refine Ct.ofV (by decide) (Nat.le_of_ble_eq_true rfl) ?_
  intro p e s m args below meth c A R Q F hnm hcs0 hE
  refine v_lv (lv' := [(0, .ref v0), (1, .ref g), (2, .int (nI u0)), (3, .int (zI e0)), (4, .int (nI m1))]) [0, 1, 2, 3, 4] rfl ?_
  have L31 : ∀ (d u : Nat) (b lf mo us : Int), u + d = u0 → (dvR (gBE th sd tp n sc) e0 m1 u0 0 (0, 0, 0, 0)) = dvR (gBE th sd tp n sc) e0 m1 d u (b, lf, mo, us) → dvOK u (b, lf, mo, us) → V p l e R s m args below meth c D A 7 0 0 Q 31 [(0, .ref v0), (1, .ref g), (2, .int (nI u0)), (3, .int (zI e0)), (4, .int (nI m1)), (5, .int 1), (6, .int (nI u))] [] [(v0, .inr (1, [.int (nI u), .int (zI b), .int (zI lf), .int (zI mo), .int (zI us)])), (g, .inr (2, [.ref ga, .ref gb, .ref gc, .int (nI n), .int sc])), (ga, .inl (cI, 6, .inl th)), (gb, .inl (cI, 6, .inl sd)), (gc, .inl (cI, 6, .inl tp))] := by
    intro d
    induction d using Nat.strongRecOn with
    | _ d ih => ?_
    intro u b lf mo us hk hf hO
    refine v_iload F dX1_run_31 6 rfl (q := 33) rfl ?_
    refine v_iload_n F dX1_run_33 (i := 2) rfl 2 rfl (q := 34) rfl ?_
    refine v_icmp_ge F dX1_run_34 (tgt := 65) rfl (q := 37) rfl (fun c34 => ?_) (fun c34 => ?_)
    · skip
      rw [nI_leI (by omega) (by omega)] at c34
      have hd0 : d = 0 := by omega
      subst hd0
      simp only [dvR] at hf
      exact hE dX1_run_65 (Nat.zero_le _) (Nat.zero_le _) ⟨⟨rfl, by rw [hf]⟩, Nat.le_of_ble_eq_true rfl⟩
    · skip
      rw [nI_leI (by omega) (by omega)] at c34
      obtain ⟨d, rfl⟩ : ∃ d2, d = d2 + 1 := ⟨d - 1, by omega⟩
      simp only [dvR] at hf
      have q1 := gPU_rng G (u + 1)
      have q2 := gTI_rng G (u + 1)
      have hbe : 0 ≤ gBE th sd tp n sc (u + 1) ∧ gBE th sd tp n sc (u + 1) ≤ 6000 := by unfold gBE; omega
      have hlf : 0 ≤ lf ∧ lf ≤ 10000 := ⟨hO.2.2.1, hO.2.2.2.1⟩
      have hmo : 0 ≤ mo ∧ mo ≤ 200 := ⟨hO.2.2.2.2.1, hO.2.2.2.2.2.1⟩
      refine v_iload F dX1_run_37 5 rfl (q := 39) rfl ?_
      refine v_if_eq F dX1_run_39 (tgt := 65) rfl (q := 42) rfl (fun c39 => ?_) (fun c39 => ?_)
      · exact absurd c39 (by decide)
      · skip
        refine v_aload_n F dX1_run_42 (i := 0) rfl 0 rfl (q := 43) rfl ?_
        refine v_aload_n F dX1_run_43 (i := 1) rfl 1 rfl (q := 44) rfl ?_
        refine v_iload F dX1_run_44 6 rfl (q := 46) rfl ?_
        refine v_iconst F dX1_run_46 (v := 1) (q := 47) rfl rfl ?_
        refine v_iadd F dX1_run_47 (q := 48) rfl ?_
        refine v_int (y := nI (u + 1)) (nI_1 u) ?_
        refine v_callVN F ml_X1_25 im_X2_bearingOf se_X2_bearingOf in_X2 co_X2_bearingOf sd_X2_bearingOf (c_X2_bearingOf g ga gb gc th sd tp n sc (u + 1) G (by omega)) ⟨Nat.zero_le _, Nat.zero_le _⟩ (Nat.le_of_ble_eq_true rfl) (Nat.le_of_ble_eq_true rfl) 1 (As := [.int (nI (u + 1))]) rfl rfl rfl rfl rfl [1, 2, 3, 4] rfl rfl rfl (rest := [.ref v0]) rfl (Nat.le_of_ble_eq_true rfl) dX1_run_48 (q := 51) rfl (fun r w hr => ?_)
        obtain ⟨rfl, rfl⟩ := hr
        refine v_ws (ws' := [(v0, .inr (1, [.int (nI u), .int (zI b), .int (zI lf), .int (zI mo), .int (zI us)])), (g, .inr (2, [.ref ga, .ref gb, .ref gc, .int (nI n), .int sc])), (ga, .inl (cI, 6, .inl th)), (gb, .inl (cI, 6, .inl sd)), (gc, .inl (cI, 6, .inl tp))]) rfl ?_
        refine v_st (st' := [.int (zI (gBE th sd tp n sc (u + 1))), .ref v0]) rfl ?_
        refine v_iload_n F dX1_run_51 (i := 3) rfl 3 rfl (q := 52) rfl ?_
        refine v_iload F dX1_run_52 4 rfl (q := 54) rfl ?_
        refine v_callV F ml_X1_31 im_X1_goThrough se_X1_goThrough in_X1 co_X1_goThrough sd_X1_goThrough (c_X1_goThrough v0 u b lf mo us (gBE th sd tp n sc (u + 1)) e0 m1 he hbe hm hlf hmo) ⟨Nat.zero_le _, Nat.zero_le _⟩ (Nat.le_of_ble_eq_true rfl) (Nat.le_of_ble_eq_true rfl) 0 (As := [.int (zI (gBE th sd tp n sc (u + 1))), .int (zI e0), .int (nI m1)]) rfl rfl rfl rfl rfl [0] rfl rfl rfl (rest := []) rfl (Nat.le_of_ble_eq_true rfl) dX1_run_54 (q := 57) rfl (fun r w hr => ?_)
        obtain ⟨rfl, rfl⟩ := hr
        refine v_ws (ws' := [(v0, .inr (1, [.int (nI (if (dvU (gBE th sd tp n sc (u + 1)) e0 m1 (b, lf, mo, us)).1 then u + 1 else u)), .int (zI (dvU (gBE th sd tp n sc (u + 1)) e0 m1 (b, lf, mo, us)).2.1), .int (zI (dvU (gBE th sd tp n sc (u + 1)) e0 m1 (b, lf, mo, us)).2.2.1), .int (zI (dvU (gBE th sd tp n sc (u + 1)) e0 m1 (b, lf, mo, us)).2.2.2.1), .int (zI (dvU (gBE th sd tp n sc (u + 1)) e0 m1 (b, lf, mo, us)).2.2.2.2)])), (g, .inr (2, [.ref ga, .ref gb, .ref gc, .int (nI n), .int sc])), (ga, .inl (cI, 6, .inl th)), (gb, .inl (cI, 6, .inl sd)), (gc, .inl (cI, 6, .inl tp))]) rfl ?_
        refine v_st (st' := [.int (bI (dvU (gBE th sd tp n sc (u + 1)) e0 m1 (b, lf, mo, us)).1)]) rfl ?_
        rcases hok : (dvU (gBE th sd tp n sc (u + 1)) e0 m1 (b, lf, mo, us)).1 with _ | _
        · skip
          rw [hok] at hf
          simp only [Bool.false_eq_true, if_false] at hf
          have hdp : nI (if false = true then u + 1 else u) = nI u := rfl
          refine v_istore F dX1_run_57 (lv' := [(5, .int (bI false)), (0, .ref v0), (1, .ref g), (2, .int (nI u0)), (3, .int (zI e0)), (4, .int (nI m1)), (6, .int (nI u))]) (Nat.le_of_ble_eq_true rfl) rfl (q := 59) rfl ?_
          refine v_iinc F dX1_run_59 6 rfl (v := nI (u + 1)) (lv' := [(6, .int (nI (u + 1))), (5, .int (bI false)), (0, .ref v0), (1, .ref g), (2, .int (nI u0)), (3, .int (zI e0)), (4, .int (nI m1))]) (nI_1 u) (Nat.le_of_ble_eq_true rfl) rfl (q := 62) rfl ?_
          refine v_goto F dX1_run_62 (tgt := 31) rfl ?_
          refine v_iload F dX1_run_31 0 rfl (q := 33) rfl ?_
          refine v_iload_n F dX1_run_33 (i := 2) rfl 4 rfl (q := 34) rfl ?_
          refine v_icmp_ge F dX1_run_34 (tgt := 65) rfl (q := 37) rfl (fun c34 => ?_) (fun c34 => ?_)
          · skip
            exact hE dX1_run_65 (Nat.zero_le _) (Nat.zero_le _) ⟨⟨rfl, by rw [hf]; rfl⟩, Nat.le_of_ble_eq_true rfl⟩
          · skip
            refine v_iload F dX1_run_37 1 rfl (q := 39) rfl ?_
            refine v_if_eq F dX1_run_39 (tgt := 65) rfl (q := 42) rfl (fun c39 => ?_) (fun c39 => ?_)
            · skip
              exact hE dX1_run_65 (Nat.zero_le _) (Nat.zero_le _) ⟨⟨rfl, by rw [hf]; rfl⟩, Nat.le_of_ble_eq_true rfl⟩
            · exact absurd rfl c39
        · skip
          rw [hok] at hf
          simp only [if_true] at hf
          refine v_istore F dX1_run_57 (lv' := [(5, .int (bI true)), (0, .ref v0), (1, .ref g), (2, .int (nI u0)), (3, .int (zI e0)), (4, .int (nI m1)), (6, .int (nI u))]) (Nat.le_of_ble_eq_true rfl) rfl (q := 59) rfl ?_
          refine v_iinc F dX1_run_59 6 rfl (v := nI (u + 1)) (lv' := [(6, .int (nI (u + 1))), (5, .int (bI true)), (0, .ref v0), (1, .ref g), (2, .int (nI u0)), (3, .int (zI e0)), (4, .int (nI m1))]) (nI_1 u) (Nat.le_of_ble_eq_true rfl) rfl (q := 62) rfl ?_
          refine v_goto F dX1_run_62 (tgt := 31) rfl ?_
          refine v_lv (lv' := [(0, .ref v0), (1, .ref g), (2, .int (nI u0)), (3, .int (zI e0)), (4, .int (nI m1)), (5, .int (bI true)), (6, .int (nI (u + 1)))]) [2, 3, 4, 5, 6, 1, 0] rfl ?_
          exact ih d (by omega) (u + 1) _ _ _ _ (by omega) hf (dvU_ok he hbe hm hO)
  refine v_aload_n F dX1_run_0 (i := 0) rfl 0 rfl (q := 1) rfl ?_
  refine v_iconst F dX1_run_1 (v := 0) (q := 2) rfl rfl ?_
  refine pt_X1_7 F dX1_run_2 0 rfl (Nat.le_of_ble_eq_true rfl) (q := 5) rfl ?_
  refine v_ws (ws' := [(v0, .inr (1, [.int 0, .int b0, .int lf0, .int mo0, .int us0])), (g, .inr (2, [.ref ga, .ref gb, .ref gc, .int (nI n), .int sc])), (ga, .inl (cI, 6, .inl th)), (gb, .inl (cI, 6, .inl sd)), (gc, .inl (cI, 6, .inl tp))]) rfl ?_
  refine v_aload_n F dX1_run_5 (i := 0) rfl 0 rfl (q := 6) rfl ?_
  refine v_iconst F dX1_run_6 (v := 0) (q := 7) rfl rfl ?_
  refine pt_X1_13 F dX1_run_7 0 rfl (Nat.le_of_ble_eq_true rfl) (q := 10) rfl ?_
  refine v_ws (ws' := [(v0, .inr (1, [.int 0, .int 0, .int lf0, .int mo0, .int us0])), (g, .inr (2, [.ref ga, .ref gb, .ref gc, .int (nI n), .int sc])), (ga, .inl (cI, 6, .inl th)), (gb, .inl (cI, 6, .inl sd)), (gc, .inl (cI, 6, .inl tp))]) rfl ?_
  refine v_aload_n F dX1_run_10 (i := 0) rfl 0 rfl (q := 11) rfl ?_
  refine v_iconst F dX1_run_11 (v := 0) (q := 12) rfl rfl ?_
  refine pt_X1_16 F dX1_run_12 0 rfl (Nat.le_of_ble_eq_true rfl) (q := 15) rfl ?_
  refine v_ws (ws' := [(v0, .inr (1, [.int 0, .int 0, .int 0, .int mo0, .int us0])), (g, .inr (2, [.ref ga, .ref gb, .ref gc, .int (nI n), .int sc])), (ga, .inl (cI, 6, .inl th)), (gb, .inl (cI, 6, .inl sd)), (gc, .inl (cI, 6, .inl tp))]) rfl ?_
  refine v_aload_n F dX1_run_15 (i := 0) rfl 0 rfl (q := 16) rfl ?_
  refine v_iconst F dX1_run_16 (v := 0) (q := 17) rfl rfl ?_
  refine pt_X1_19 F dX1_run_17 0 rfl (Nat.le_of_ble_eq_true rfl) (q := 20) rfl ?_
  refine v_ws (ws' := [(v0, .inr (1, [.int 0, .int 0, .int 0, .int 0, .int us0])), (g, .inr (2, [.ref ga, .ref gb, .ref gc, .int (nI n), .int sc])), (ga, .inl (cI, 6, .inl th)), (gb, .inl (cI, 6, .inl sd)), (gc, .inl (cI, 6, .inl tp))]) rfl ?_
  refine v_aload_n F dX1_run_20 (i := 0) rfl 0 rfl (q := 21) rfl ?_
  refine v_iconst F dX1_run_21 (v := 0) (q := 22) rfl rfl ?_
  refine pt_X1_22 F dX1_run_22 0 rfl (Nat.le_of_ble_eq_true rfl) (q := 25) rfl ?_
  refine v_ws (ws' := [(v0, .inr (1, [.int 0, .int 0, .int 0, .int 0, .int 0])), (g, .inr (2, [.ref ga, .ref gb, .ref gc, .int (nI n), .int sc])), (ga, .inl (cI, 6, .inl th)), (gb, .inl (cI, 6, .inl sd)), (gc, .inl (cI, 6, .inl tp))]) rfl ?_
  refine v_iconst F dX1_run_25 (v := 1) (q := 26) rfl rfl ?_
  refine v_istore F dX1_run_26 (lv' := [(5, .int 1), (0, .ref v0), (1, .ref g), (2, .int (nI u0)), (3, .int (zI e0)), (4, .int (nI m1))]) (Nat.le_of_ble_eq_true rfl) rfl (q := 28) rfl ?_
  refine v_iconst F dX1_run_28 (v := 0) (q := 29) rfl rfl ?_
  refine v_istore F dX1_run_29 (lv' := [(6, .int 0), (5, .int 1), (0, .ref v0), (1, .ref g), (2, .int (nI u0)), (3, .int (zI e0)), (4, .int (nI m1))]) (Nat.le_of_ble_eq_true rfl) rfl (q := 31) rfl ?_
  refine v_lv (lv' := [(0, .ref v0), (1, .ref g), (2, .int (nI u0)), (3, .int (zI e0)), (4, .int (nI m1)), (5, .int 1), (6, .int 0)]) [2, 3, 4, 5, 6, 1, 0] rfl ?_
  exact L31 u0 0 0 0 0 0 (by omega) rfl (by unfold dvOK; simp)

end MD
end
section
section SA
variable {l : Launch} {D : va_G} {cI cJ cZ : ClassId}
theorem in_J13 : Cond.initialized RJ13 ∈ ALL := (ALL_at 58 (by decide +kernel) rfl)
set_option maxHeartbeats 4000000 in
set_option maxRecDepth 100000 in
theorem c_X7_within (v a b : Int32)  : Ct l D (TY cI cJ cZ) yX7_within cX7_within 3 (some .boolean) 0 0 0 0 [.int v, .int a, .int b] [] (fun r w => r = some (.int (bI (inR v a b))) ∧ w = []) := by
  refine Ct.ofI (ty := .boolean) (by decide) (Nat.le_of_ble_eq_true rfl) ?_
  intro p e s m args below meth c A R Q F hnm hcs0 hE
  refine v_lv (lv' := [(0, .int v), (1, .int a), (2, .int b)]) [0, 1, 2] rfl ?_
  refine v_iload_n F dX7_within_0 (i := 0) rfl 0 rfl (q := 1) rfl ?_
  refine v_iload_n F dX7_within_1 (i := 1) rfl 1 rfl (q := 2) rfl ?_
  refine v_icmp_lt F dX7_within_2 (tgt := 14) rfl (q := 5) rfl (fun c2 => ?_) (fun c2 => ?_)
  · skip
    refine v_iconst F dX7_within_14 (v := 0) (q := 15) rfl rfl ?_
    exact hE (by first | rfl | exact bI_nar _) dX7_within_15 (Nat.zero_le _) (Nat.zero_le _) ⟨⟨by first | rw [inR_f1 c2] | rw [inR_f2 c7], rfl⟩, Nat.le_of_ble_eq_true rfl⟩
  · skip
    refine v_iload_n F dX7_within_5 (i := 0) rfl 0 rfl (q := 6) rfl ?_
    refine v_iload_n F dX7_within_6 (i := 2) rfl 2 rfl (q := 7) rfl ?_
    refine v_icmp_gt F dX7_within_7 (tgt := 14) rfl (q := 10) rfl (fun c7 => ?_) (fun c7 => ?_)
    · skip
      refine v_iconst F dX7_within_14 (v := 0) (q := 15) rfl rfl ?_
      exact hE (by first | rfl | exact bI_nar _) dX7_within_15 (Nat.zero_le _) (Nat.zero_le _) ⟨⟨by first | rw [inR_f1 c2] | rw [inR_f2 c7], rfl⟩, Nat.le_of_ble_eq_true rfl⟩
    · skip
      refine v_iconst F dX7_within_10 (v := 1) (q := 11) rfl rfl ?_
      refine v_goto F dX7_within_11 (tgt := 15) rfl ?_
      exact hE (by first | rfl | exact bI_nar _) dX7_within_15 (Nat.zero_le _) (Nat.zero_le _) ⟨⟨by rw [inR_t c2 c7], rfl⟩, Nat.le_of_ble_eq_true rfl⟩

set_option maxHeartbeats 4000000 in
set_option maxRecDepth 100000 in
theorem c_X7_isSide (v : Int32)  : Ct l D (TY cI cJ cZ) yX7_isSide cX7_isSide 1 (some .boolean) 1 22 0 0 [.int v] [] (fun r w => r = some (.int (bI (inR v 0 50))) ∧ w = []) := by
  refine Ct.ofI (ty := .boolean) (by decide) (Nat.le_of_ble_eq_true rfl) ?_
  intro p e s m args below meth c A R Q F hnm hcs0 hE
  refine v_lv (lv' := [(0, .int v)]) [0] rfl ?_
  refine v_iload_n F dX7_isSide_0 (i := 0) rfl 0 rfl (q := 1) rfl ?_
  refine v_iconst F dX7_isSide_1 (v := 0) (q := 2) rfl rfl ?_
  refine v_bipush F dX7_isSide_2 (v := 50) (q := 4) rfl rfl ?_
  refine v_callS F ml_X7_64 sm_X7_within in_X7 co_X7_within sd_X7_within (c_X7_within v 0 50) ⟨Nat.zero_le _, Nat.zero_le _⟩ (Nat.le_of_ble_eq_true rfl) (Nat.le_of_ble_eq_true rfl) rfl [] rfl rfl rfl (rest := []) rfl (Nat.le_of_ble_eq_true rfl) dX7_isSide_4 (q := 7) rfl (fun r w hr => ?_)
  obtain ⟨rfl, rfl⟩ := hr
  refine v_ws (ws' := []) rfl ?_
  refine v_st (st' := [.int (bI (inR v 0 50))]) rfl ?_
  exact hE (bI_nar _) dX7_isSide_7 (Nat.zero_le _) (Nat.zero_le _) ⟨⟨rfl, rfl⟩, Nat.le_of_ble_eq_true rfl⟩

set_option maxHeartbeats 4000000 in
set_option maxRecDepth 100000 in
theorem c_X7_isTip (v : Int32)  : Ct l D (TY cI cJ cZ) yX7_isTip cX7_isTip 1 (some .boolean) 1 22 0 0 [.int v] [] (fun r w => r = some (.int (bI (inR v 0 1000))) ∧ w = []) := by
  refine Ct.ofI (ty := .boolean) (by decide) (Nat.le_of_ble_eq_true rfl) ?_
  intro p e s m args below meth c A R Q F hnm hcs0 hE
  refine v_lv (lv' := [(0, .int v)]) [0] rfl ?_
  refine v_iload_n F dX7_isTip_0 (i := 0) rfl 0 rfl (q := 1) rfl ?_
  refine v_iconst F dX7_isTip_1 (v := 0) (q := 2) rfl rfl ?_
  refine v_sipush F dX7_isTip_2 (v := 1000) (q := 5) rfl rfl ?_
  refine v_callS F ml_X7_64 sm_X7_within in_X7 co_X7_within sd_X7_within (c_X7_within v 0 1000) ⟨Nat.zero_le _, Nat.zero_le _⟩ (Nat.le_of_ble_eq_true rfl) (Nat.le_of_ble_eq_true rfl) rfl [] rfl rfl rfl (rest := []) rfl (Nat.le_of_ble_eq_true rfl) dX7_isTip_5 (q := 8) rfl (fun r w hr => ?_)
  obtain ⟨rfl, rfl⟩ := hr
  refine v_ws (ws' := []) rfl ?_
  refine v_st (st' := [.int (bI (inR v 0 1000))]) rfl ?_
  exact hE (bI_nar _) dX7_isTip_8 (Nat.zero_le _) (Nat.zero_le _) ⟨⟨rfl, rfl⟩, Nat.le_of_ble_eq_true rfl⟩

set_option maxHeartbeats 4000000 in
set_option maxRecDepth 100000 in
theorem c_X7_isCase (v : Int32)  : Ct l D (TY cI cJ cZ) yX7_isCase cX7_isCase 1 (some .boolean) 1 22 0 0 [.int v] [] (fun r w => r = some (.int (bI (inR v 0 2))) ∧ w = []) := by
  refine Ct.ofI (ty := .boolean) (by decide) (Nat.le_of_ble_eq_true rfl) ?_
  intro p e s m args below meth c A R Q F hnm hcs0 hE
  refine v_lv (lv' := [(0, .int v)]) [0] rfl ?_
  refine v_iload_n F dX7_isCase_0 (i := 0) rfl 0 rfl (q := 1) rfl ?_
  refine v_iconst F dX7_isCase_1 (v := 0) (q := 2) rfl rfl ?_
  refine v_iconst F dX7_isCase_2 (v := 2) (q := 3) rfl rfl ?_
  refine v_callS F ml_X7_64 sm_X7_within in_X7 co_X7_within sd_X7_within (c_X7_within v 0 2) ⟨Nat.zero_le _, Nat.zero_le _⟩ (Nat.le_of_ble_eq_true rfl) (Nat.le_of_ble_eq_true rfl) rfl [] rfl rfl rfl (rest := []) rfl (Nat.le_of_ble_eq_true rfl) dX7_isCase_3 (q := 6) rfl (fun r w hr => ?_)
  obtain ⟨rfl, rfl⟩ := hr
  refine v_ws (ws' := []) rfl ?_
  refine v_st (st' := [.int (bI (inR v 0 2))]) rfl ?_
  exact hE (bI_nar _) dX7_isCase_6 (Nat.zero_le _) (Nat.zero_le _) ⟨⟨rfl, rfl⟩, Nat.le_of_ble_eq_true rfl⟩

set_option maxHeartbeats 4000000 in
set_option maxRecDepth 100000 in
theorem c_X7_isPlace (x y : Int32)  : Ct l D (TY cI cJ cZ) yX7_isPlace cX7_isPlace 2 (some .boolean) 1 22 0 0 [.int x, .int y] [] (fun r w => r = some (.int (bI (inR x (-20) 20 && inR y (-20) 20))) ∧ w = []) := by
  refine Ct.ofI (ty := .boolean) (by decide) (Nat.le_of_ble_eq_true rfl) ?_
  intro p e s m args below meth c A R Q F hnm hcs0 hE
  refine v_lv (lv' := [(0, .int x), (1, .int y)]) [0, 1] rfl ?_
  refine v_iload_n F dX7_isPlace_0 (i := 0) rfl 0 rfl (q := 1) rfl ?_
  refine v_bipush F dX7_isPlace_1 (v := (-20)) (q := 3) rfl rfl ?_
  refine v_bipush F dX7_isPlace_3 (v := 20) (q := 5) rfl rfl ?_
  refine v_callS F ml_X7_64 sm_X7_within in_X7 co_X7_within sd_X7_within (c_X7_within x (-20) 20) ⟨Nat.zero_le _, Nat.zero_le _⟩ (Nat.le_of_ble_eq_true rfl) (Nat.le_of_ble_eq_true rfl) rfl [] rfl rfl rfl (rest := []) rfl (Nat.le_of_ble_eq_true rfl) dX7_isPlace_5 (q := 8) rfl (fun r w hr => ?_)
  obtain ⟨rfl, rfl⟩ := hr
  refine v_ws (ws' := []) rfl ?_
  refine v_st (st' := [.int (bI (inR x (-20) 20))]) rfl ?_
  refine v_if_eq F dX7_isPlace_8 (tgt := 26) rfl (q := 11) rfl (fun c8 => ?_) (fun c8 => ?_)
  · skip
    refine v_iconst F dX7_isPlace_26 (v := 0) (q := 27) rfl rfl ?_
    exact hE (by first | rfl | exact bI_nar _) dX7_isPlace_27 (Nat.zero_le _) (Nat.zero_le _) ⟨⟨by first | (rw [bI_z.mp c8]; rfl) | (rw [bI_z.mp c19, Bool.and_false]; rfl), rfl⟩, Nat.le_of_ble_eq_true rfl⟩
  · skip
    refine v_iload_n F dX7_isPlace_11 (i := 1) rfl 1 rfl (q := 12) rfl ?_
    refine v_bipush F dX7_isPlace_12 (v := (-20)) (q := 14) rfl rfl ?_
    refine v_bipush F dX7_isPlace_14 (v := 20) (q := 16) rfl rfl ?_
    refine v_callS F ml_X7_64 sm_X7_within in_X7 co_X7_within sd_X7_within (c_X7_within y (-20) 20) ⟨Nat.zero_le _, Nat.zero_le _⟩ (Nat.le_of_ble_eq_true rfl) (Nat.le_of_ble_eq_true rfl) rfl [] rfl rfl rfl (rest := []) rfl (Nat.le_of_ble_eq_true rfl) dX7_isPlace_16 (q := 19) rfl (fun r w hr => ?_)
    obtain ⟨rfl, rfl⟩ := hr
    refine v_ws (ws' := []) rfl ?_
    refine v_st (st' := [.int (bI (inR y (-20) 20))]) rfl ?_
    refine v_if_eq F dX7_isPlace_19 (tgt := 26) rfl (q := 22) rfl (fun c19 => ?_) (fun c19 => ?_)
    · skip
      refine v_iconst F dX7_isPlace_26 (v := 0) (q := 27) rfl rfl ?_
      exact hE (by first | rfl | exact bI_nar _) dX7_isPlace_27 (Nat.zero_le _) (Nat.zero_le _) ⟨⟨by first | (rw [bI_z.mp c8]; rfl) | (rw [bI_z.mp c19, Bool.and_false]; rfl), rfl⟩, Nat.le_of_ble_eq_true rfl⟩
    · skip
      refine v_iconst F dX7_isPlace_22 (v := 1) (q := 23) rfl rfl ?_
      refine v_goto F dX7_isPlace_23 (tgt := 27) rfl ?_
      exact hE (by first | rfl | exact bI_nar _) dX7_isPlace_27 (Nat.zero_le _) (Nat.zero_le _) ⟨⟨by rw [bI_nz.mp c8, bI_nz.mp c19]; rfl, rfl⟩, Nat.le_of_ble_eq_true rfl⟩

set_option maxHeartbeats 4000000 in
set_option maxRecDepth 100000 in
theorem c_X8_in (v a b : Int32)  : Ct l D (TY cI cJ cZ) yX8_in cX8_in 3 (some .boolean) 0 0 0 0 [.int v, .int a, .int b] [] (fun r w => r = some (.int (bI (inR v a b))) ∧ w = []) := by
  refine Ct.ofI (ty := .boolean) (by decide) (Nat.le_of_ble_eq_true rfl) ?_
  intro p e s m args below meth c A R Q F hnm hcs0 hE
  refine v_lv (lv' := [(0, .int v), (1, .int a), (2, .int b)]) [0, 1, 2] rfl ?_
  refine v_iload_n F dX8_in_0 (i := 0) rfl 0 rfl (q := 1) rfl ?_
  refine v_iload_n F dX8_in_1 (i := 1) rfl 1 rfl (q := 2) rfl ?_
  refine v_icmp_lt F dX8_in_2 (tgt := 14) rfl (q := 5) rfl (fun c2 => ?_) (fun c2 => ?_)
  · skip
    refine v_iconst F dX8_in_14 (v := 0) (q := 15) rfl rfl ?_
    exact hE (by first | rfl | exact bI_nar _) dX8_in_15 (Nat.zero_le _) (Nat.zero_le _) ⟨⟨by first | rw [inR_f1 c2] | rw [inR_f2 c7], rfl⟩, Nat.le_of_ble_eq_true rfl⟩
  · skip
    refine v_iload_n F dX8_in_5 (i := 0) rfl 0 rfl (q := 6) rfl ?_
    refine v_iload_n F dX8_in_6 (i := 2) rfl 2 rfl (q := 7) rfl ?_
    refine v_icmp_gt F dX8_in_7 (tgt := 14) rfl (q := 10) rfl (fun c7 => ?_) (fun c7 => ?_)
    · skip
      refine v_iconst F dX8_in_14 (v := 0) (q := 15) rfl rfl ?_
      exact hE (by first | rfl | exact bI_nar _) dX8_in_15 (Nat.zero_le _) (Nat.zero_le _) ⟨⟨by first | rw [inR_f1 c2] | rw [inR_f2 c7], rfl⟩, Nat.le_of_ble_eq_true rfl⟩
    · skip
      refine v_iconst F dX8_in_10 (v := 1) (q := 11) rfl rfl ?_
      refine v_goto F dX8_in_11 (tgt := 15) rfl ?_
      exact hE (by first | rfl | exact bI_nar _) dX8_in_15 (Nat.zero_le _) (Nat.zero_le _) ⟨⟨by rw [inR_t c2 c7], rfl⟩, Nat.le_of_ble_eq_true rfl⟩

set_option maxHeartbeats 4000000 in
set_option maxRecDepth 100000 in
theorem c_X8_isPlace (x y : Int32)  : Ct l D (TY cI cJ cZ) yX8_isPlace cX8_isPlace 2 (some .boolean) 1 22 0 0 [.int x, .int y] [] (fun r w => r = some (.int (bI (inR x (-20) 20 && inR y (-20) 20))) ∧ w = []) := by
  refine Ct.ofI (ty := .boolean) (by decide) (Nat.le_of_ble_eq_true rfl) ?_
  intro p e s m args below meth c A R Q F hnm hcs0 hE
  refine v_lv (lv' := [(0, .int x), (1, .int y)]) [0, 1] rfl ?_
  refine v_iload_n F dX8_isPlace_0 (i := 0) rfl 0 rfl (q := 1) rfl ?_
  refine v_bipush F dX8_isPlace_1 (v := (-20)) (q := 3) rfl rfl ?_
  refine v_bipush F dX8_isPlace_3 (v := 20) (q := 5) rfl rfl ?_
  refine v_callS F ml_X8_54 sm_X8_in in_X8 co_X8_in sd_X8_in (c_X8_in x (-20) 20) ⟨Nat.zero_le _, Nat.zero_le _⟩ (Nat.le_of_ble_eq_true rfl) (Nat.le_of_ble_eq_true rfl) rfl [] rfl rfl rfl (rest := []) rfl (Nat.le_of_ble_eq_true rfl) dX8_isPlace_5 (q := 8) rfl (fun r w hr => ?_)
  obtain ⟨rfl, rfl⟩ := hr
  refine v_ws (ws' := []) rfl ?_
  refine v_st (st' := [.int (bI (inR x (-20) 20))]) rfl ?_
  refine v_if_eq F dX8_isPlace_8 (tgt := 26) rfl (q := 11) rfl (fun c8 => ?_) (fun c8 => ?_)
  · skip
    refine v_iconst F dX8_isPlace_26 (v := 0) (q := 27) rfl rfl ?_
    exact hE (by first | rfl | exact bI_nar _) dX8_isPlace_27 (Nat.zero_le _) (Nat.zero_le _) ⟨⟨by first | (rw [bI_z.mp c8]; rfl) | (rw [bI_z.mp c19, Bool.and_false]; rfl), rfl⟩, Nat.le_of_ble_eq_true rfl⟩
  · skip
    refine v_iload_n F dX8_isPlace_11 (i := 1) rfl 1 rfl (q := 12) rfl ?_
    refine v_bipush F dX8_isPlace_12 (v := (-20)) (q := 14) rfl rfl ?_
    refine v_bipush F dX8_isPlace_14 (v := 20) (q := 16) rfl rfl ?_
    refine v_callS F ml_X8_54 sm_X8_in in_X8 co_X8_in sd_X8_in (c_X8_in y (-20) 20) ⟨Nat.zero_le _, Nat.zero_le _⟩ (Nat.le_of_ble_eq_true rfl) (Nat.le_of_ble_eq_true rfl) rfl [] rfl rfl rfl (rest := []) rfl (Nat.le_of_ble_eq_true rfl) dX8_isPlace_16 (q := 19) rfl (fun r w hr => ?_)
    obtain ⟨rfl, rfl⟩ := hr
    refine v_ws (ws' := []) rfl ?_
    refine v_st (st' := [.int (bI (inR y (-20) 20))]) rfl ?_
    refine v_if_eq F dX8_isPlace_19 (tgt := 26) rfl (q := 22) rfl (fun c19 => ?_) (fun c19 => ?_)
    · skip
      refine v_iconst F dX8_isPlace_26 (v := 0) (q := 27) rfl rfl ?_
      exact hE (by first | rfl | exact bI_nar _) dX8_isPlace_27 (Nat.zero_le _) (Nat.zero_le _) ⟨⟨by first | (rw [bI_z.mp c8]; rfl) | (rw [bI_z.mp c19, Bool.and_false]; rfl), rfl⟩, Nat.le_of_ble_eq_true rfl⟩
    · skip
      refine v_iconst F dX8_isPlace_22 (v := 1) (q := 23) rfl rfl ?_
      refine v_goto F dX8_isPlace_23 (tgt := 27) rfl ?_
      exact hE (by first | rfl | exact bI_nar _) dX8_isPlace_27 (Nat.zero_le _) (Nat.zero_le _) ⟨⟨by rw [bI_nz.mp c8, bI_nz.mp c19]; rfl, rfl⟩, Nat.le_of_ble_eq_true rfl⟩

set_option maxHeartbeats 4000000 in
set_option maxRecDepth 100000 in
theorem c_X8_isCase (v : Int32)  : Ct l D (TY cI cJ cZ) yX8_isCase cX8_isCase 1 (some .boolean) 1 22 0 0 [.int v] [] (fun r w => r = some (.int (bI (inR v 0 2))) ∧ w = []) := by
  refine Ct.ofI (ty := .boolean) (by decide) (Nat.le_of_ble_eq_true rfl) ?_
  intro p e s m args below meth c A R Q F hnm hcs0 hE
  refine v_lv (lv' := [(0, .int v)]) [0] rfl ?_
  refine v_iload_n F dX8_isCase_0 (i := 0) rfl 0 rfl (q := 1) rfl ?_
  refine v_iconst F dX8_isCase_1 (v := 0) (q := 2) rfl rfl ?_
  refine v_iconst F dX8_isCase_2 (v := 2) (q := 3) rfl rfl ?_
  refine v_callS F ml_X8_54 sm_X8_in in_X8 co_X8_in sd_X8_in (c_X8_in v 0 2) ⟨Nat.zero_le _, Nat.zero_le _⟩ (Nat.le_of_ble_eq_true rfl) (Nat.le_of_ble_eq_true rfl) rfl [] rfl rfl rfl (rest := []) rfl (Nat.le_of_ble_eq_true rfl) dX8_isCase_3 (q := 6) rfl (fun r w hr => ?_)
  obtain ⟨rfl, rfl⟩ := hr
  refine v_ws (ws' := []) rfl ?_
  refine v_st (st' := [.int (bI (inR v 0 2))]) rfl ?_
  exact hE (bI_nar _) dX8_isCase_6 (Nat.zero_le _) (Nat.zero_le _) ⟨⟨rfl, rfl⟩, Nat.le_of_ble_eq_true rfl⟩

set_option maxHeartbeats 4000000 in
set_option maxRecDepth 100000 in
theorem c_J6_bitCount_0f7a4 (x : Int32)  : Ct l D (TY cI cJ cZ) yJ6_bitCount_0f7a4 cJ6_bitCount_0f7a4 1 (some .int) 0 0 0 0 [.int x] [] (fun r w => r = some (.int (bcI x)) ∧ w = []) := by
  refine Ct.ofI (ty := .int) (by decide) (Nat.le_of_ble_eq_true rfl) ?_
  intro p e s m args below meth c A R Q F hnm hcs0 hE
  refine v_lv (lv' := [(0, .int x)]) [0] rfl ?_
  refine v_iload_n F dJ6_bitCount_0f7a4_0 (i := 0) rfl 0 rfl (q := 1) rfl ?_
  refine v_iload_n F dJ6_bitCount_0f7a4_1 (i := 0) rfl 0 rfl (q := 2) rfl ?_
  refine v_iconst F dJ6_bitCount_0f7a4_2 (v := 1) (q := 3) rfl rfl ?_
  refine v_iushr F dJ6_bitCount_0f7a4_3 (q := 4) rfl rfl ?_
  refine v_ldcw F kc_J6_265 dJ6_bitCount_0f7a4_4 (q := 7) rfl ?_
  refine v_iand F dJ6_bitCount_0f7a4_7 (q := 8) rfl ?_
  refine v_isub F dJ6_bitCount_0f7a4_8 (q := 9) rfl ?_
  refine v_istore_n F dJ6_bitCount_0f7a4_9 (i := 0) (lv' := [(0, .int (x - ((us32 x 1) &&& 1431655765)))]) rfl (Nat.le_of_ble_eq_true rfl) rfl (q := 10) rfl ?_
  refine v_iload_n F dJ6_bitCount_0f7a4_10 (i := 0) rfl 0 rfl (q := 11) rfl ?_
  refine v_ldcw F kc_J6_266 dJ6_bitCount_0f7a4_11 (q := 14) rfl ?_
  refine v_iand F dJ6_bitCount_0f7a4_14 (q := 15) rfl ?_
  refine v_iload_n F dJ6_bitCount_0f7a4_15 (i := 0) rfl 0 rfl (q := 16) rfl ?_
  refine v_iconst F dJ6_bitCount_0f7a4_16 (v := 2) (q := 17) rfl rfl ?_
  refine v_iushr F dJ6_bitCount_0f7a4_17 (q := 18) rfl rfl ?_
  refine v_ldcw F kc_J6_266 dJ6_bitCount_0f7a4_18 (q := 21) rfl ?_
  refine v_iand F dJ6_bitCount_0f7a4_21 (q := 22) rfl ?_
  refine v_iadd F dJ6_bitCount_0f7a4_22 (q := 23) rfl ?_
  refine v_istore_n F dJ6_bitCount_0f7a4_23 (i := 0) (lv' := [(0, .int (((x - ((us32 x 1) &&& 1431655765)) &&& 858993459) + ((us32 (x - ((us32 x 1) &&& 1431655765)) 2) &&& 858993459)))]) rfl (Nat.le_of_ble_eq_true rfl) rfl (q := 24) rfl ?_
  refine v_iload_n F dJ6_bitCount_0f7a4_24 (i := 0) rfl 0 rfl (q := 25) rfl ?_
  refine v_iload_n F dJ6_bitCount_0f7a4_25 (i := 0) rfl 0 rfl (q := 26) rfl ?_
  refine v_iconst F dJ6_bitCount_0f7a4_26 (v := 4) (q := 27) rfl rfl ?_
  refine v_iushr F dJ6_bitCount_0f7a4_27 (q := 28) rfl rfl ?_
  refine v_iadd F dJ6_bitCount_0f7a4_28 (q := 29) rfl ?_
  refine v_ldcw F kc_J6_267 dJ6_bitCount_0f7a4_29 (q := 32) rfl ?_
  refine v_iand F dJ6_bitCount_0f7a4_32 (q := 33) rfl ?_
  refine v_istore_n F dJ6_bitCount_0f7a4_33 (i := 0) (lv' := [(0, .int (((((x - ((us32 x 1) &&& 1431655765)) &&& 858993459) + ((us32 (x - ((us32 x 1) &&& 1431655765)) 2) &&& 858993459)) + (us32 (((x - ((us32 x 1) &&& 1431655765)) &&& 858993459) + ((us32 (x - ((us32 x 1) &&& 1431655765)) 2) &&& 858993459)) 4)) &&& 252645135))]) rfl (Nat.le_of_ble_eq_true rfl) rfl (q := 34) rfl ?_
  refine v_iload_n F dJ6_bitCount_0f7a4_34 (i := 0) rfl 0 rfl (q := 35) rfl ?_
  refine v_iload_n F dJ6_bitCount_0f7a4_35 (i := 0) rfl 0 rfl (q := 36) rfl ?_
  refine v_bipush F dJ6_bitCount_0f7a4_36 (v := 8) (q := 38) rfl rfl ?_
  refine v_iushr F dJ6_bitCount_0f7a4_38 (q := 39) rfl rfl ?_
  refine v_iadd F dJ6_bitCount_0f7a4_39 (q := 40) rfl ?_
  refine v_istore_n F dJ6_bitCount_0f7a4_40 (i := 0) (lv' := [(0, .int ((((((x - ((us32 x 1) &&& 1431655765)) &&& 858993459) + ((us32 (x - ((us32 x 1) &&& 1431655765)) 2) &&& 858993459)) + (us32 (((x - ((us32 x 1) &&& 1431655765)) &&& 858993459) + ((us32 (x - ((us32 x 1) &&& 1431655765)) 2) &&& 858993459)) 4)) &&& 252645135) + (us32 (((((x - ((us32 x 1) &&& 1431655765)) &&& 858993459) + ((us32 (x - ((us32 x 1) &&& 1431655765)) 2) &&& 858993459)) + (us32 (((x - ((us32 x 1) &&& 1431655765)) &&& 858993459) + ((us32 (x - ((us32 x 1) &&& 1431655765)) 2) &&& 858993459)) 4)) &&& 252645135) 8)))]) rfl (Nat.le_of_ble_eq_true rfl) rfl (q := 41) rfl ?_
  refine v_iload_n F dJ6_bitCount_0f7a4_41 (i := 0) rfl 0 rfl (q := 42) rfl ?_
  refine v_iload_n F dJ6_bitCount_0f7a4_42 (i := 0) rfl 0 rfl (q := 43) rfl ?_
  refine v_bipush F dJ6_bitCount_0f7a4_43 (v := 16) (q := 45) rfl rfl ?_
  refine v_iushr F dJ6_bitCount_0f7a4_45 (q := 46) rfl rfl ?_
  refine v_iadd F dJ6_bitCount_0f7a4_46 (q := 47) rfl ?_
  refine v_istore_n F dJ6_bitCount_0f7a4_47 (i := 0) (lv' := [(0, .int (((((((x - ((us32 x 1) &&& 1431655765)) &&& 858993459) + ((us32 (x - ((us32 x 1) &&& 1431655765)) 2) &&& 858993459)) + (us32 (((x - ((us32 x 1) &&& 1431655765)) &&& 858993459) + ((us32 (x - ((us32 x 1) &&& 1431655765)) 2) &&& 858993459)) 4)) &&& 252645135) + (us32 (((((x - ((us32 x 1) &&& 1431655765)) &&& 858993459) + ((us32 (x - ((us32 x 1) &&& 1431655765)) 2) &&& 858993459)) + (us32 (((x - ((us32 x 1) &&& 1431655765)) &&& 858993459) + ((us32 (x - ((us32 x 1) &&& 1431655765)) 2) &&& 858993459)) 4)) &&& 252645135) 8)) + (us32 ((((((x - ((us32 x 1) &&& 1431655765)) &&& 858993459) + ((us32 (x - ((us32 x 1) &&& 1431655765)) 2) &&& 858993459)) + (us32 (((x - ((us32 x 1) &&& 1431655765)) &&& 858993459) + ((us32 (x - ((us32 x 1) &&& 1431655765)) 2) &&& 858993459)) 4)) &&& 252645135) + (us32 (((((x - ((us32 x 1) &&& 1431655765)) &&& 858993459) + ((us32 (x - ((us32 x 1) &&& 1431655765)) 2) &&& 858993459)) + (us32 (((x - ((us32 x 1) &&& 1431655765)) &&& 858993459) + ((us32 (x - ((us32 x 1) &&& 1431655765)) 2) &&& 858993459)) 4)) &&& 252645135) 8)) 16)))]) rfl (Nat.le_of_ble_eq_true rfl) rfl (q := 48) rfl ?_
  refine v_iload_n F dJ6_bitCount_0f7a4_48 (i := 0) rfl 0 rfl (q := 49) rfl ?_
  refine v_bipush F dJ6_bitCount_0f7a4_49 (v := 63) (q := 51) rfl rfl ?_
  refine v_iand F dJ6_bitCount_0f7a4_51 (q := 52) rfl ?_
  exact hE rfl dJ6_bitCount_0f7a4_52 (Nat.zero_le _) (Nat.zero_le _) ⟨⟨rfl, rfl⟩, Nat.le_of_ble_eq_true rfl⟩

set_option maxHeartbeats 4000000 in
set_option maxRecDepth 100000 in
theorem c_J13_compare_74951 (x y : Int64)  : Ct l D (TY cI cJ cZ) yJ13_compare_74951 cJ13_compare_74951 4 (some .int) 0 0 0 0 [.long x, .long y] [] (fun r w => r = some (.int (cmpL x y)) ∧ w = []) := by
  refine Ct.ofI (ty := .int) (by decide) (Nat.le_of_ble_eq_true rfl) ?_
  intro p e s m args below meth c A R Q F hnm hcs0 hE
  refine v_lv (lv' := [(0, .long x), (2, .long y)]) [0, 1] rfl ?_
  refine v_lload_n F dJ13_compare_74951_0 (i := 0) rfl 0 rfl (q := 1) rfl ?_
  refine v_lload_n F dJ13_compare_74951_1 (i := 2) rfl 1 rfl (q := 2) rfl ?_
  refine v_lcmp_ge F dJ13_compare_74951_2 dJ13_compare_74951_3 (tgt := 10) rfl (q := 6) rfl (fun c2 => ?_) (fun c2 => ?_)
  · skip
    refine v_lload_n F dJ13_compare_74951_10 (i := 0) rfl 0 rfl (q := 11) rfl ?_
    refine v_lload_n F dJ13_compare_74951_11 (i := 2) rfl 1 rfl (q := 12) rfl ?_
    refine v_lcmp_ne F dJ13_compare_74951_12 dJ13_compare_74951_13 (tgt := 20) rfl (q := 16) rfl (fun c12 => ?_) (fun c12 => ?_)
    · skip
      refine v_iconst F dJ13_compare_74951_20 (v := 1) (q := 21) rfl rfl ?_
      exact hE rfl dJ13_compare_74951_21 (Nat.zero_le _) (Nat.zero_le _) ⟨⟨by unfold cmpL; rw [if_neg (i64_nlt.mpr c2), if_neg c12], rfl⟩, Nat.le_of_ble_eq_true rfl⟩
    · skip
      refine v_iconst F dJ13_compare_74951_16 (v := 0) (q := 17) rfl rfl ?_
      refine v_goto F dJ13_compare_74951_17 (tgt := 21) rfl ?_
      exact hE rfl dJ13_compare_74951_21 (Nat.zero_le _) (Nat.zero_le _) ⟨⟨by unfold cmpL; rw [if_neg (i64_nlt.mpr c2), if_pos c12], rfl⟩, Nat.le_of_ble_eq_true rfl⟩
  · skip
    refine v_iconst F dJ13_compare_74951_6 (v := (-1)) (q := 7) rfl rfl ?_
    refine v_goto F dJ13_compare_74951_7 (tgt := 21) rfl ?_
    exact hE rfl dJ13_compare_74951_21 (Nat.zero_le _) (Nat.zero_le _) ⟨⟨by unfold cmpL; rw [if_pos (i64_nle.mp c2)], rfl⟩, Nat.le_of_ble_eq_true rfl⟩

set_option maxHeartbeats 4000000 in
set_option maxRecDepth 100000 in
theorem c_X7_compare (a b c0 d0 : Nat) (hA : EI 0 a b) (hC : EI 0 c0 d0) (hb : 0 < b) (hd : 0 < d0) : Ct l D (TY cI cJ cZ) yX7_compare cX7_compare 14 (some .int) 1 23 0 0 [.long (lN a), .long (lN b), .long (lN c0), .long (lN d0)] [] (fun r w => r = some (.int (cmpF a b c0 d0)) ∧ w = []) := by
  refine Ct.ofI (ty := .int) (by decide) (Nat.le_of_ble_eq_true rfl) ?_
  intro p e s m args below meth c A R Q F hnm hcs0 hE
  refine v_lv (lv' := [(0, .long (lN a)), (2, .long (lN b)), (4, .long (lN c0)), (6, .long (lN d0))]) [0, 1, 2, 3] rfl ?_
  have L3 : ∀ (f i x y z w : Nat), i + f = 200 → EI i x y → EI i z w → 0 < y → 0 < w → cmpF a b c0 d0 = cmpF x y z w → V p l e R s m args below meth c D A 14 0 0 Q 3 [(0, .long (lN x)), (2, .long (lN y)), (4, .long (lN z)), (6, .long (lN w)), (8, .int (nI i))] [] [] := by
    intro f
    induction f using Nat.strongRecOn with
    | _ f ih => ?_
    intro i x y z w hi hE1 hE2 hy hw hg
    have b1 := hE1.1
    have b2 := hE1.2.1
    have b3 := hE2.1
    have b4 := hE2.2.1
    have m1 := Nat.div_le_self x y
    have m2 := Nat.div_le_self z w
    have m3 := Nat.mod_lt x hy
    have m4 := Nat.mod_lt z hw
    refine v_iload F dX7_compare_3 4 rfl (q := 5) rfl ?_
    refine v_sipush F dX7_compare_5 (v := 200) (q := 8) rfl rfl ?_
    refine v_icmp_ge F dX7_compare_8 (tgt := 98) rfl (q := 11) rfl (fun c8 => ?_) (fun c8 => ?_)
    · exact absurd (EI_end hE1 (by rw [show (200 : Int32) = nI 200 from rfl, nI_leI (by omega) (by omega)] at c8; exact c8)) (by omega)
    · skip
      rw [show (200 : Int32) = nI 200 from rfl, nI_leI (by omega) (by omega)] at c8
      obtain ⟨f, rfl⟩ : ∃ d2, f = d2 + 1 := ⟨f - 1, by omega⟩
      refine v_lload_n F dX7_compare_11 (i := 2) rfl 1 rfl (q := 12) rfl ?_
      refine v_lconst F dX7_compare_12 (v := 0) (q := 13) rfl rfl ?_
      refine v_lcmp_le F dX7_compare_13 dX7_compare_14 (tgt := 98) rfl (q := 17) rfl (fun c13 => ?_) (fun c13 => ?_)
      · exact absurd ((pk_lLE (b := 0) (by omega) (by omega)).mp c13) (by omega)
      · skip
        refine v_lload F dX7_compare_17 3 rfl (q := 19) rfl ?_
        refine v_lconst F dX7_compare_19 (v := 0) (q := 20) rfl rfl ?_
        refine v_lcmp_le F dX7_compare_20 dX7_compare_21 (tgt := 98) rfl (q := 24) rfl (fun c20 => ?_) (fun c20 => ?_)
        · exact absurd ((pk_lLE (b := 0) (by omega) (by omega)).mp c20) (by omega)
        · skip
          refine v_lload_n F dX7_compare_24 (i := 0) rfl 0 rfl (q := 25) rfl ?_
          refine v_lload_n F dX7_compare_25 (i := 2) rfl 1 rfl (q := 26) rfl ?_
          refine v_ldiv F dX7_compare_26 (fun q => by have := (pk_lEQ (b := 0) (by omega) (by omega)).mp q; omega) (q := 27) rfl ?_
          refine v_long (y := lN (x / y)) (pk_lDiv (by omega) hy (by omega)) ?_
          refine v_lload F dX7_compare_27 2 rfl (q := 29) rfl ?_
          refine v_lload F dX7_compare_29 3 rfl (q := 31) rfl ?_
          refine v_ldiv F dX7_compare_31 (fun q => by have := (pk_lEQ (b := 0) (by omega) (by omega)).mp q; omega) (q := 32) rfl ?_
          refine v_long (y := lN (z / w)) (pk_lDiv (by omega) hw (by omega)) ?_
          refine v_callS F ml_X7_265 sm_J13_compare_74951 in_J13 co_J13_compare_74951 sd_J13_compare_74951 (c_J13_compare_74951 (lN (x / y)) (lN (z / w))) ⟨Nat.zero_le _, Nat.zero_le _⟩ (Nat.le_of_ble_eq_true rfl) (Nat.le_of_ble_eq_true rfl) rfl [] rfl rfl rfl (rest := []) rfl (Nat.le_of_ble_eq_true rfl) dX7_compare_32 (q := 35) rfl (fun r w hr => ?_)
          obtain ⟨rfl, rfl⟩ := hr
          refine v_ws (ws' := []) rfl ?_
          refine v_st (st' := [.int (cmpL (lN (x / y)) (lN (z / w)))]) rfl ?_
          refine v_int (y := if x / y < z / w then -1 else if x / y = z / w then 0 else 1) (cmpL_lN (by omega) (by omega)) ?_
          refine v_istore F dX7_compare_35 (lv' := [(9, .int (if x / y < z / w then -1 else if x / y = z / w then 0 else 1)), (0, .long (lN x)), (2, .long (lN y)), (4, .long (lN z)), (6, .long (lN w)), (8, .int (nI i))]) (Nat.le_of_ble_eq_true rfl) rfl (q := 37) rfl ?_
          refine v_iload F dX7_compare_37 0 rfl (q := 39) rfl ?_
          refine v_if_eq F dX7_compare_39 (tgt := 45) rfl (q := 42) rfl (fun c39 => ?_) (fun c39 => ?_)
          · skip
            have heq : x / y = z / w := cq_eq c39
            rw [cmpF_rest heq] at hg
            refine v_lload_n F dX7_compare_45 (i := 0) rfl 1 rfl (q := 46) rfl ?_
            refine v_lload_n F dX7_compare_46 (i := 2) rfl 2 rfl (q := 47) rfl ?_
            refine v_lrem F dX7_compare_47 (fun q => by have := (pk_lEQ (b := 0) (by omega) (by omega)).mp q; omega) (q := 48) rfl ?_
            refine v_long (y := lN (x % y)) (pk_lRem (by omega) hy (by omega)) ?_
            refine v_lstore F dX7_compare_48 (lv' := [(10, .long (lN (x % y))), (9, .int (if x / y < z / w then -1 else if x / y = z / w then 0 else 1)), (0, .long (lN x)), (2, .long (lN y)), (4, .long (lN z)), (6, .long (lN w)), (8, .int (nI i))]) (Nat.le_of_ble_eq_true rfl) rfl (q := 50) rfl ?_
            refine v_lload F dX7_compare_50 4 rfl (q := 52) rfl ?_
            refine v_lload F dX7_compare_52 5 rfl (q := 54) rfl ?_
            refine v_lrem F dX7_compare_54 (fun q => by have := (pk_lEQ (b := 0) (by omega) (by omega)).mp q; omega) (q := 55) rfl ?_
            refine v_long (y := lN (z % w)) (pk_lRem (by omega) hw (by omega)) ?_
            refine v_lstore F dX7_compare_55 (lv' := [(12, .long (lN (z % w))), (10, .long (lN (x % y))), (9, .int (if x / y < z / w then -1 else if x / y = z / w then 0 else 1)), (0, .long (lN x)), (2, .long (lN y)), (4, .long (lN z)), (6, .long (lN w)), (8, .int (nI i))]) (Nat.le_of_ble_eq_true rfl) rfl (q := 57) rfl ?_
            refine v_lload F dX7_compare_57 1 rfl (q := 59) rfl ?_
            refine v_lconst F dX7_compare_59 (v := 0) (q := 60) rfl rfl ?_
            refine v_lcmp_eq F dX7_compare_60 dX7_compare_61 (tgt := 71) rfl (q := 64) rfl (fun c60 => ?_) (fun c60 => ?_)
            · skip
              have hz : x % y = 0 := (pk_lEQ (a := x % y) (b := 0) (by omega) (by omega)).mp c60
              rw [cmpF_z hy hw (Or.inl hz)] at hg
              refine v_lload F dX7_compare_71 1 rfl (q := 73) rfl ?_
              refine v_lload F dX7_compare_73 0 rfl (q := 75) rfl ?_
              refine v_callS F ml_X7_265 sm_J13_compare_74951 in_J13 co_J13_compare_74951 sd_J13_compare_74951 (c_J13_compare_74951 (lN (x % y)) (lN (z % w))) ⟨Nat.zero_le _, Nat.zero_le _⟩ (Nat.le_of_ble_eq_true rfl) (Nat.le_of_ble_eq_true rfl) rfl [] rfl rfl rfl (rest := []) rfl (Nat.le_of_ble_eq_true rfl) dX7_compare_75 (q := 78) rfl (fun r w hr => ?_)
              obtain ⟨rfl, rfl⟩ := hr
              refine v_ws (ws' := []) rfl ?_
              refine v_st (st' := [.int (cmpL (lN (x % y)) (lN (z % w)))]) rfl ?_
              refine v_int (y := if x % y < z % w then -1 else if x % y = z % w then 0 else 1) (cmpL_lN (by omega) (by omega)) ?_
              exact hE rfl dX7_compare_78 (Nat.zero_le _) (Nat.zero_le _) ⟨⟨by rw [hg], rfl⟩, Nat.le_of_ble_eq_true rfl⟩
            · skip
              have hnz : ¬ x % y = 0 := fun q => c60 (by rw [q]; rfl)
              refine v_lload F dX7_compare_64 0 rfl (q := 66) rfl ?_
              refine v_lconst F dX7_compare_66 (v := 0) (q := 67) rfl rfl ?_
              refine v_lcmp_ne F dX7_compare_67 dX7_compare_68 (tgt := 79) rfl (q := 71) rfl (fun c67 => ?_) (fun c67 => ?_)
              · skip
                have hnz2 : ¬ z % w = 0 := fun q => c67 (by rw [q]; rfl)
                have hg2 := hg.trans cmpF_turn
                refine v_lload F dX7_compare_79 6 rfl (q := 81) rfl ?_
                refine v_lstore_n F dX7_compare_81 (i := 0) (lv' := [(0, .long (lN w)), (12, .long (lN (z % w))), (10, .long (lN (x % y))), (9, .int (if x / y < z / w then -1 else if x / y = z / w then 0 else 1)), (2, .long (lN y)), (4, .long (lN z)), (6, .long (lN w)), (8, .int (nI i))]) rfl (Nat.le_of_ble_eq_true rfl) rfl (q := 82) rfl ?_
                refine v_lload_n F dX7_compare_82 (i := 2) rfl 4 rfl (q := 83) rfl ?_
                refine v_lstore F dX7_compare_83 (lv' := [(4, .long (lN y)), (0, .long (lN w)), (12, .long (lN (z % w))), (10, .long (lN (x % y))), (9, .int (if x / y < z / w then -1 else if x / y = z / w then 0 else 1)), (2, .long (lN y)), (6, .long (lN w)), (8, .int (nI i))]) (Nat.le_of_ble_eq_true rfl) rfl (q := 85) rfl ?_
                refine v_lload F dX7_compare_85 2 rfl (q := 87) rfl ?_
                refine v_lstore_n F dX7_compare_87 (i := 2) (lv' := [(2, .long (lN (z % w))), (4, .long (lN y)), (0, .long (lN w)), (12, .long (lN (z % w))), (10, .long (lN (x % y))), (9, .int (if x / y < z / w then -1 else if x / y = z / w then 0 else 1)), (6, .long (lN w)), (8, .int (nI i))]) rfl (Nat.le_of_ble_eq_true rfl) rfl (q := 88) rfl ?_
                refine v_lload F dX7_compare_88 4 rfl (q := 90) rfl ?_
                refine v_lstore F dX7_compare_90 (lv' := [(6, .long (lN (x % y))), (2, .long (lN (z % w))), (4, .long (lN y)), (0, .long (lN w)), (12, .long (lN (z % w))), (10, .long (lN (x % y))), (9, .int (if x / y < z / w then -1 else if x / y = z / w then 0 else 1)), (8, .int (nI i))]) (Nat.le_of_ble_eq_true rfl) rfl (q := 92) rfl ?_
                refine v_iinc F dX7_compare_92 7 rfl (v := nI (i + 1)) (lv' := [(8, .int (nI (i + 1))), (6, .long (lN (x % y))), (2, .long (lN (z % w))), (4, .long (lN y)), (0, .long (lN w)), (12, .long (lN (z % w))), (10, .long (lN (x % y))), (9, .int (if x / y < z / w then -1 else if x / y = z / w then 0 else 1))]) (nI_1 i) (Nat.le_of_ble_eq_true rfl) rfl (q := 95) rfl ?_
                refine v_goto F dX7_compare_95 (tgt := 3) rfl ?_
                refine v_lv (lv' := [(0, .long (lN w)), (2, .long (lN (z % w))), (4, .long (lN y)), (6, .long (lN (x % y))), (8, .int (nI (i + 1)))]) [4, 2, 3, 1, 0] rfl ?_
                exact ih f (by omega) (i + 1) w (z % w) y (x % y) (by omega) (EI_step hE2 (by omega)) (EI_step hE1 (by omega)) (by omega) (by omega) hg2
              · skip
                have hz2 : z % w = 0 := (pk_lEQ (a := z % w) (b := 0) (by omega) (by omega)).mp c67
                rw [cmpF_z hy hw (Or.inr hz2)] at hg
                refine v_lload F dX7_compare_71 1 rfl (q := 73) rfl ?_
                refine v_lload F dX7_compare_73 0 rfl (q := 75) rfl ?_
                refine v_callS F ml_X7_265 sm_J13_compare_74951 in_J13 co_J13_compare_74951 sd_J13_compare_74951 (c_J13_compare_74951 (lN (x % y)) (lN (z % w))) ⟨Nat.zero_le _, Nat.zero_le _⟩ (Nat.le_of_ble_eq_true rfl) (Nat.le_of_ble_eq_true rfl) rfl [] rfl rfl rfl (rest := []) rfl (Nat.le_of_ble_eq_true rfl) dX7_compare_75 (q := 78) rfl (fun r w hr => ?_)
                obtain ⟨rfl, rfl⟩ := hr
                refine v_ws (ws' := []) rfl ?_
                refine v_st (st' := [.int (cmpL (lN (x % y)) (lN (z % w)))]) rfl ?_
                refine v_int (y := if x % y < z % w then -1 else if x % y = z % w then 0 else 1) (cmpL_lN (by omega) (by omega)) ?_
                exact hE rfl dX7_compare_78 (Nat.zero_le _) (Nat.zero_le _) ⟨⟨by rw [hg], rfl⟩, Nat.le_of_ble_eq_true rfl⟩
          · skip
            have hne : ¬ x / y = z / w := fun q => c39 (by rw [q]; simp)
            refine v_iload F dX7_compare_42 0 rfl (q := 44) rfl ?_
            exact hE rfl dX7_compare_44 (Nat.zero_le _) (Nat.zero_le _) ⟨⟨by rw [hg, cq_ne hy hw hne], rfl⟩, Nat.le_of_ble_eq_true rfl⟩
  refine v_iconst F dX7_compare_0 (v := 0) (q := 1) rfl rfl ?_
  refine v_istore F dX7_compare_1 (lv' := [(8, .int 0), (0, .long (lN a)), (2, .long (lN b)), (4, .long (lN c0)), (6, .long (lN d0))]) (Nat.le_of_ble_eq_true rfl) rfl (q := 3) rfl ?_
  refine v_lv (lv' := [(0, .long (lN a)), (2, .long (lN b)), (4, .long (lN c0)), (6, .long (lN d0)), (8, .int 0)]) [1, 2, 3, 4, 0] rfl ?_
  exact L3 200 0 a b c0 d0 (by omega) hA hC hb hd rfl

end SA
end
