section
-- ===== PART A: goes FIRST, ahead of the names: the tables' words, and 'selects' of the private methods out of them =====
/-- a private method of a class that the tables say can be made, by its rows of tables_1 -/
def lw_okq (q : MethodName × Nat) : Prop := (q.1.cls ≠ "java/lang/invoke/MethodHandle" ∧ q.1.cls ≠ "java/lang/invoke/VarHandle") ∧ Cond.instantiable q.1.cls q.2 ∈ tables_1 ∧ Cond.privateMethod q.1 ∈ tables_1 ∧ Cond.instanceMethod q.1 ∈ tables_1
theorem lw_p0 : lw_okq (⟨"PuppetBar", "stringAnew", "(I)V"⟩, 15) := ⟨⟨by decide +kernel, by decide +kernel⟩, List.mem_of_getElem? (i := 9) (by decide +kernel), List.mem_of_getElem? (i := 43) (by decide +kernel), List.mem_of_getElem? (i := 44) (by decide +kernel)⟩
theorem lw_p1 : lw_okq (⟨"PuppetBar", "refusalOfSetting", "(IIJ)I"⟩, 15) := ⟨⟨by decide +kernel, by decide +kernel⟩, List.mem_of_getElem? (i := 9) (by decide +kernel), List.mem_of_getElem? (i := 99) (by decide +kernel), List.mem_of_getElem? (i := 100) (by decide +kernel)⟩
theorem lw_p2 : lw_okq (⟨"PuppetBar", "refusalOfPart", "(II)I"⟩, 15) := ⟨⟨by decide +kernel, by decide +kernel⟩, List.mem_of_getElem? (i := 9) (by decide +kernel), List.mem_of_getElem? (i := 103) (by decide +kernel), List.mem_of_getElem? (i := 104) (by decide +kernel)⟩
theorem lw_p3 : lw_okq (⟨"PuppetBar", "refusalOfThread", "(I)I"⟩, 15) := ⟨⟨by decide +kernel, by decide +kernel⟩, List.mem_of_getElem? (i := 9) (by decide +kernel), List.mem_of_getElem? (i := 107) (by decide +kernel), List.mem_of_getElem? (i := 108) (by decide +kernel)⟩
theorem lw_p4 : lw_okq (⟨"PuppetBar", "write", "(IIJ)V"⟩, 15) := ⟨⟨by decide +kernel, by decide +kernel⟩, List.mem_of_getElem? (i := 9) (by decide +kernel), List.mem_of_getElem? (i := 123) (by decide +kernel), List.mem_of_getElem? (i := 124) (by decide +kernel)⟩
theorem lw_p5 : lw_okq (⟨"PuppetBar", "read", "(II)J"⟩, 15) := ⟨⟨by decide +kernel, by decide +kernel⟩, List.mem_of_getElem? (i := 9) (by decide +kernel), List.mem_of_getElem? (i := 131) (by decide +kernel), List.mem_of_getElem? (i := 132) (by decide +kernel)⟩
theorem lw_p6 : lw_okq (⟨"PuppetBar", "refusalOfStringing", "(I)I"⟩, 15) := ⟨⟨by decide +kernel, by decide +kernel⟩, List.mem_of_getElem? (i := 9) (by decide +kernel), List.mem_of_getElem? (i := 147) (by decide +kernel), List.mem_of_getElem? (i := 148) (by decide +kernel)⟩
theorem lw_p7 : lw_okq (⟨"PuppetBar", "refusalOfMove", "(III)I"⟩, 15) := ⟨⟨by decide +kernel, by decide +kernel⟩, List.mem_of_getElem? (i := 9) (by decide +kernel), List.mem_of_getElem? (i := 155) (by decide +kernel), List.mem_of_getElem? (i := 156) (by decide +kernel)⟩
theorem lw_p8 : lw_okq (⟨"PuppetBar", "clearChanges", "()V"⟩, 15) := ⟨⟨by decide +kernel, by decide +kernel⟩, List.mem_of_getElem? (i := 9) (by decide +kernel), List.mem_of_getElem? (i := 162) (by decide +kernel), List.mem_of_getElem? (i := 163) (by decide +kernel)⟩
theorem lw_p9 : lw_okq (⟨"PuppetBar", "perform", "(III)V"⟩, 15) := ⟨⟨by decide +kernel, by decide +kernel⟩, List.mem_of_getElem? (i := 9) (by decide +kernel), List.mem_of_getElem? (i := 166) (by decide +kernel), List.mem_of_getElem? (i := 167) (by decide +kernel)⟩
theorem lw_p10 : lw_okq (⟨"PuppetBar", "flip", "(I)V"⟩, 15) := ⟨⟨by decide +kernel, by decide +kernel⟩, List.mem_of_getElem? (i := 9) (by decide +kernel), List.mem_of_getElem? (i := 170) (by decide +kernel), List.mem_of_getElem? (i := 171) (by decide +kernel)⟩
theorem lw_p11 : lw_okq (⟨"PuppetBar", "changeLength", "(IJ)V"⟩, 15) := ⟨⟨by decide +kernel, by decide +kernel⟩, List.mem_of_getElem? (i := 9) (by decide +kernel), List.mem_of_getElem? (i := 174) (by decide +kernel), List.mem_of_getElem? (i := 175) (by decide +kernel)⟩
theorem lw_p12 : lw_okq (⟨"PuppetBar", "changePull", "(II)V"⟩, 15) := ⟨⟨by decide +kernel, by decide +kernel⟩, List.mem_of_getElem? (i := 9) (by decide +kernel), List.mem_of_getElem? (i := 178) (by decide +kernel), List.mem_of_getElem? (i := 179) (by decide +kernel)⟩
theorem lw_p13 : lw_okq (⟨"PuppetBar", "changeKnots", "(II)V"⟩, 15) := ⟨⟨by decide +kernel, by decide +kernel⟩, List.mem_of_getElem? (i := 9) (by decide +kernel), List.mem_of_getElem? (i := 185) (by decide +kernel), List.mem_of_getElem? (i := 186) (by decide +kernel)⟩
theorem lw_p14 : lw_okq (⟨"PuppetBar", "changeTwist", "(IJ)V"⟩, 15) := ⟨⟨by decide +kernel, by decide +kernel⟩, List.mem_of_getElem? (i := 9) (by decide +kernel), List.mem_of_getElem? (i := 192) (by decide +kernel), List.mem_of_getElem? (i := 193) (by decide +kernel)⟩
theorem lw_p15 : lw_okq (⟨"PuppetBar", "stretch", "(II)V"⟩, 15) := ⟨⟨by decide +kernel, by decide +kernel⟩, List.mem_of_getElem? (i := 9) (by decide +kernel), List.mem_of_getElem? (i := 196) (by decide +kernel), List.mem_of_getElem? (i := 197) (by decide +kernel)⟩
def lw_privs_1 : List (MethodName × Nat) := [(⟨"PuppetBar", "stringAnew", "(I)V"⟩, 15), (⟨"PuppetBar", "refusalOfSetting", "(IIJ)I"⟩, 15), (⟨"PuppetBar", "refusalOfPart", "(II)I"⟩, 15), (⟨"PuppetBar", "refusalOfThread", "(I)I"⟩, 15), (⟨"PuppetBar", "write", "(IIJ)V"⟩, 15), (⟨"PuppetBar", "read", "(II)J"⟩, 15), (⟨"PuppetBar", "refusalOfStringing", "(I)I"⟩, 15), (⟨"PuppetBar", "refusalOfMove", "(III)I"⟩, 15), (⟨"PuppetBar", "clearChanges", "()V"⟩, 15), (⟨"PuppetBar", "perform", "(III)V"⟩, 15), (⟨"PuppetBar", "flip", "(I)V"⟩, 15), (⟨"PuppetBar", "changeLength", "(IJ)V"⟩, 15), (⟨"PuppetBar", "changePull", "(II)V"⟩, 15), (⟨"PuppetBar", "changeKnots", "(II)V"⟩, 15), (⟨"PuppetBar", "changeTwist", "(IJ)V"⟩, 15), (⟨"PuppetBar", "stretch", "(II)V"⟩, 15)]
theorem lw_r1 : ∀ q ∈ lw_privs_1, lw_okq q := List.forall_mem_cons.mpr ⟨lw_p0, List.forall_mem_cons.mpr ⟨lw_p1, List.forall_mem_cons.mpr ⟨lw_p2, List.forall_mem_cons.mpr ⟨lw_p3, List.forall_mem_cons.mpr ⟨lw_p4, List.forall_mem_cons.mpr ⟨lw_p5, List.forall_mem_cons.mpr ⟨lw_p6, List.forall_mem_cons.mpr ⟨lw_p7, List.forall_mem_cons.mpr ⟨lw_p8, List.forall_mem_cons.mpr ⟨lw_p9, List.forall_mem_cons.mpr ⟨lw_p10, List.forall_mem_cons.mpr ⟨lw_p11, List.forall_mem_cons.mpr ⟨lw_p12, List.forall_mem_cons.mpr ⟨lw_p13, List.forall_mem_cons.mpr ⟨lw_p14, List.forall_mem_cons.mpr ⟨lw_p15, fun _ h => absurd h List.not_mem_nil⟩⟩⟩⟩⟩⟩⟩⟩⟩⟩⟩⟩⟩⟩⟩⟩
theorem lw_p16 : lw_okq (⟨"PuppetBar", "ease", "(II)V"⟩, 15) := ⟨⟨by decide +kernel, by decide +kernel⟩, List.mem_of_getElem? (i := 9) (by decide +kernel), List.mem_of_getElem? (i := 218) (by decide +kernel), List.mem_of_getElem? (i := 219) (by decide +kernel)⟩
theorem lw_p17 : lw_okq (⟨"PuppetBar", "letToWhole", "(IZZ)V"⟩, 15) := ⟨⟨by decide +kernel, by decide +kernel⟩, List.mem_of_getElem? (i := 9) (by decide +kernel), List.mem_of_getElem? (i := 234) (by decide +kernel), List.mem_of_getElem? (i := 235) (by decide +kernel)⟩
theorem lw_p18 : lw_okq (⟨"PuppetBar", "changeAmounts", "(IJJ)V"⟩, 15) := ⟨⟨by decide +kernel, by decide +kernel⟩, List.mem_of_getElem? (i := 9) (by decide +kernel), List.mem_of_getElem? (i := 251) (by decide +kernel), List.mem_of_getElem? (i := 252) (by decide +kernel)⟩
theorem lw_p19 : lw_okq (⟨"PuppetBar", "letNear", "(I)V"⟩, 15) := ⟨⟨by decide +kernel, by decide +kernel⟩, List.mem_of_getElem? (i := 9) (by decide +kernel), List.mem_of_getElem? (i := 263) (by decide +kernel), List.mem_of_getElem? (i := 264) (by decide +kernel)⟩
theorem lw_p20 : lw_okq (⟨"PuppetBar", "lean", "(I)V"⟩, 15) := ⟨⟨by decide +kernel, by decide +kernel⟩, List.mem_of_getElem? (i := 9) (by decide +kernel), List.mem_of_getElem? (i := 270) (by decide +kernel), List.mem_of_getElem? (i := 271) (by decide +kernel)⟩
theorem lw_p21 : lw_okq (⟨"PuppetBar", "mirror", "(II)V"⟩, 15) := ⟨⟨by decide +kernel, by decide +kernel⟩, List.mem_of_getElem? (i := 9) (by decide +kernel), List.mem_of_getElem? (i := 276) (by decide +kernel), List.mem_of_getElem? (i := 277) (by decide +kernel)⟩
theorem lw_p22 : lw_okq (⟨"PuppetBar", "hold", "(I)V"⟩, 15) := ⟨⟨by decide +kernel, by decide +kernel⟩, List.mem_of_getElem? (i := 9) (by decide +kernel), List.mem_of_getElem? (i := 280) (by decide +kernel), List.mem_of_getElem? (i := 281) (by decide +kernel)⟩
theorem lw_p23 : lw_okq (⟨"PuppetBar", "placeStops", "(II)V"⟩, 15) := ⟨⟨by decide +kernel, by decide +kernel⟩, List.mem_of_getElem? (i := 9) (by decide +kernel), List.mem_of_getElem? (i := 284) (by decide +kernel), List.mem_of_getElem? (i := 285) (by decide +kernel)⟩
theorem lw_p24 : lw_okq (⟨"PuppetBar", "gather", "(I)V"⟩, 15) := ⟨⟨by decide +kernel, by decide +kernel⟩, List.mem_of_getElem? (i := 9) (by decide +kernel), List.mem_of_getElem? (i := 288) (by decide +kernel), List.mem_of_getElem? (i := 289) (by decide +kernel)⟩
theorem lw_p25 : lw_okq (⟨"PuppetBar", "trade", "(II)V"⟩, 15) := ⟨⟨by decide +kernel, by decide +kernel⟩, List.mem_of_getElem? (i := 9) (by decide +kernel), List.mem_of_getElem? (i := 292) (by decide +kernel), List.mem_of_getElem? (i := 293) (by decide +kernel)⟩
theorem lw_p26 : lw_okq (⟨"PuppetBar", "climb", "(I)V"⟩, 15) := ⟨⟨by decide +kernel, by decide +kernel⟩, List.mem_of_getElem? (i := 9) (by decide +kernel), List.mem_of_getElem? (i := 296) (by decide +kernel), List.mem_of_getElem? (i := 297) (by decide +kernel)⟩
theorem lw_p27 : lw_okq (⟨"PuppetBar", "halve", "(I)V"⟩, 15) := ⟨⟨by decide +kernel, by decide +kernel⟩, List.mem_of_getElem? (i := 9) (by decide +kernel), List.mem_of_getElem? (i := 300) (by decide +kernel), List.mem_of_getElem? (i := 301) (by decide +kernel)⟩
theorem lw_p28 : lw_okq (⟨"PuppetBar", "makeTwice", "(I)V"⟩, 15) := ⟨⟨by decide +kernel, by decide +kernel⟩, List.mem_of_getElem? (i := 9) (by decide +kernel), List.mem_of_getElem? (i := 309) (by decide +kernel), List.mem_of_getElem? (i := 310) (by decide +kernel)⟩
theorem lw_p29 : lw_okq (⟨"PuppetBar", "give", "(I)V"⟩, 15) := ⟨⟨by decide +kernel, by decide +kernel⟩, List.mem_of_getElem? (i := 9) (by decide +kernel), List.mem_of_getElem? (i := 316) (by decide +kernel), List.mem_of_getElem? (i := 317) (by decide +kernel)⟩
theorem lw_p30 : lw_okq (⟨"PuppetBar", "danceOnce", "()I"⟩, 15) := ⟨⟨by decide +kernel, by decide +kernel⟩, List.mem_of_getElem? (i := 9) (by decide +kernel), List.mem_of_getElem? (i := 332) (by decide +kernel), List.mem_of_getElem? (i := 333) (by decide +kernel)⟩
theorem lw_p31 : lw_okq (⟨"PuppetBar", "keepDance", "(I)V"⟩, 15) := ⟨⟨by decide +kernel, by decide +kernel⟩, List.mem_of_getElem? (i := 9) (by decide +kernel), List.mem_of_getElem? (i := 336) (by decide +kernel), List.mem_of_getElem? (i := 337) (by decide +kernel)⟩
def lw_privs_2 : List (MethodName × Nat) := [(⟨"PuppetBar", "ease", "(II)V"⟩, 15), (⟨"PuppetBar", "letToWhole", "(IZZ)V"⟩, 15), (⟨"PuppetBar", "changeAmounts", "(IJJ)V"⟩, 15), (⟨"PuppetBar", "letNear", "(I)V"⟩, 15), (⟨"PuppetBar", "lean", "(I)V"⟩, 15), (⟨"PuppetBar", "mirror", "(II)V"⟩, 15), (⟨"PuppetBar", "hold", "(I)V"⟩, 15), (⟨"PuppetBar", "placeStops", "(II)V"⟩, 15), (⟨"PuppetBar", "gather", "(I)V"⟩, 15), (⟨"PuppetBar", "trade", "(II)V"⟩, 15), (⟨"PuppetBar", "climb", "(I)V"⟩, 15), (⟨"PuppetBar", "halve", "(I)V"⟩, 15), (⟨"PuppetBar", "makeTwice", "(I)V"⟩, 15), (⟨"PuppetBar", "give", "(I)V"⟩, 15), (⟨"PuppetBar", "danceOnce", "()I"⟩, 15), (⟨"PuppetBar", "keepDance", "(I)V"⟩, 15)]
theorem lw_r2 : ∀ q ∈ lw_privs_2, lw_okq q := List.forall_mem_cons.mpr ⟨lw_p16, List.forall_mem_cons.mpr ⟨lw_p17, List.forall_mem_cons.mpr ⟨lw_p18, List.forall_mem_cons.mpr ⟨lw_p19, List.forall_mem_cons.mpr ⟨lw_p20, List.forall_mem_cons.mpr ⟨lw_p21, List.forall_mem_cons.mpr ⟨lw_p22, List.forall_mem_cons.mpr ⟨lw_p23, List.forall_mem_cons.mpr ⟨lw_p24, List.forall_mem_cons.mpr ⟨lw_p25, List.forall_mem_cons.mpr ⟨lw_p26, List.forall_mem_cons.mpr ⟨lw_p27, List.forall_mem_cons.mpr ⟨lw_p28, List.forall_mem_cons.mpr ⟨lw_p29, List.forall_mem_cons.mpr ⟨lw_p30, List.forall_mem_cons.mpr ⟨lw_p31, fun _ h => absurd h List.not_mem_nil⟩⟩⟩⟩⟩⟩⟩⟩⟩⟩⟩⟩⟩⟩⟩⟩
theorem lw_p32 : lw_okq (⟨"PuppetBar", "placeOf", "(I)I"⟩, 15) := ⟨⟨by decide +kernel, by decide +kernel⟩, List.mem_of_getElem? (i := 9) (by decide +kernel), List.mem_of_getElem? (i := 352) (by decide +kernel), List.mem_of_getElem? (i := 353) (by decide +kernel)⟩
theorem lw_p33 : lw_okq (⟨"PuppetBar", "isAhead", "(II)Z"⟩, 15) := ⟨⟨by decide +kernel, by decide +kernel⟩, List.mem_of_getElem? (i := 9) (by decide +kernel), List.mem_of_getElem? (i := 356) (by decide +kernel), List.mem_of_getElem? (i := 357) (by decide +kernel)⟩
theorem lw_p34 : lw_okq (⟨"PuppetBar", "compareStrung", "(II)I"⟩, 15) := ⟨⟨by decide +kernel, by decide +kernel⟩, List.mem_of_getElem? (i := 9) (by decide +kernel), List.mem_of_getElem? (i := 360) (by decide +kernel), List.mem_of_getElem? (i := 361) (by decide +kernel)⟩
theorem lw_p35 : lw_okq (⟨"PuppetBarModel", "begin", "(I)V"⟩, 21) := ⟨⟨by decide +kernel, by decide +kernel⟩, List.mem_of_getElem? (i := 372) (by decide +kernel), List.mem_of_getElem? (i := 378) (by decide +kernel), List.mem_of_getElem? (i := 379) (by decide +kernel)⟩
theorem lw_p36 : lw_okq (⟨"PuppetBarModel", "lack", "(I)I"⟩, 21) := ⟨⟨by decide +kernel, by decide +kernel⟩, List.mem_of_getElem? (i := 372) (by decide +kernel), List.mem_of_getElem? (i := 464) (by decide +kernel), List.mem_of_getElem? (i := 465) (by decide +kernel)⟩
theorem lw_p37 : lw_okq (⟨"PuppetBarModel", "lackOf", "(III)I"⟩, 21) := ⟨⟨by decide +kernel, by decide +kernel⟩, List.mem_of_getElem? (i := 372) (by decide +kernel), List.mem_of_getElem? (i := 505) (by decide +kernel), List.mem_of_getElem? (i := 506) (by decide +kernel)⟩
theorem lw_p38 : lw_okq (⟨"PuppetBarModel", "moved", "(III[I)I"⟩, 21) := ⟨⟨by decide +kernel, by decide +kernel⟩, List.mem_of_getElem? (i := 372) (by decide +kernel), List.mem_of_getElem? (i := 512) (by decide +kernel), List.mem_of_getElem? (i := 513) (by decide +kernel)⟩
theorem lw_p39 : lw_okq (⟨"PuppetBarModel", "does", "(III)V"⟩, 21) := ⟨⟨by decide +kernel, by decide +kernel⟩, List.mem_of_getElem? (i := 372) (by decide +kernel), List.mem_of_getElem? (i := 516) (by decide +kernel), List.mem_of_getElem? (i := 517) (by decide +kernel)⟩
theorem lw_p40 : lw_okq (⟨"PuppetBarModel", "flip", "(I)V"⟩, 21) := ⟨⟨by decide +kernel, by decide +kernel⟩, List.mem_of_getElem? (i := 372) (by decide +kernel), List.mem_of_getElem? (i := 520) (by decide +kernel), List.mem_of_getElem? (i := 521) (by decide +kernel)⟩
theorem lw_p41 : lw_okq (⟨"PuppetBarModel", "stretch", "(II)V"⟩, 21) := ⟨⟨by decide +kernel, by decide +kernel⟩, List.mem_of_getElem? (i := 372) (by decide +kernel), List.mem_of_getElem? (i := 528) (by decide +kernel), List.mem_of_getElem? (i := 529) (by decide +kernel)⟩
theorem lw_p42 : lw_okq (⟨"PuppetBarModel", "ease", "(II)V"⟩, 21) := ⟨⟨by decide +kernel, by decide +kernel⟩, List.mem_of_getElem? (i := 372) (by decide +kernel), List.mem_of_getElem? (i := 545) (by decide +kernel), List.mem_of_getElem? (i := 546) (by decide +kernel)⟩
theorem lw_p43 : lw_okq (⟨"PuppetBarModel", "wholes", "(II)V"⟩, 21) := ⟨⟨by decide +kernel, by decide +kernel⟩, List.mem_of_getElem? (i := 372) (by decide +kernel), List.mem_of_getElem? (i := 555) (by decide +kernel), List.mem_of_getElem? (i := 556) (by decide +kernel)⟩
theorem lw_p44 : lw_okq (⟨"PuppetBarModel", "lean", "(I)V"⟩, 21) := ⟨⟨by decide +kernel, by decide +kernel⟩, List.mem_of_getElem? (i := 372) (by decide +kernel), List.mem_of_getElem? (i := 574) (by decide +kernel), List.mem_of_getElem? (i := 575) (by decide +kernel)⟩
theorem lw_p45 : lw_okq (⟨"PuppetBarModel", "mirror", "(II)V"⟩, 21) := ⟨⟨by decide +kernel, by decide +kernel⟩, List.mem_of_getElem? (i := 372) (by decide +kernel), List.mem_of_getElem? (i := 578) (by decide +kernel), List.mem_of_getElem? (i := 579) (by decide +kernel)⟩
theorem lw_p46 : lw_okq (⟨"PuppetBarModel", "stops", "(II)V"⟩, 21) := ⟨⟨by decide +kernel, by decide +kernel⟩, List.mem_of_getElem? (i := 372) (by decide +kernel), List.mem_of_getElem? (i := 583) (by decide +kernel), List.mem_of_getElem? (i := 584) (by decide +kernel)⟩
theorem lw_p47 : lw_okq (⟨"PuppetBarModel", "gather", "(I)V"⟩, 21) := ⟨⟨by decide +kernel, by decide +kernel⟩, List.mem_of_getElem? (i := 372) (by decide +kernel), List.mem_of_getElem? (i := 587) (by decide +kernel), List.mem_of_getElem? (i := 588) (by decide +kernel)⟩
def lw_privs_3 : List (MethodName × Nat) := [(⟨"PuppetBar", "placeOf", "(I)I"⟩, 15), (⟨"PuppetBar", "isAhead", "(II)Z"⟩, 15), (⟨"PuppetBar", "compareStrung", "(II)I"⟩, 15), (⟨"PuppetBarModel", "begin", "(I)V"⟩, 21), (⟨"PuppetBarModel", "lack", "(I)I"⟩, 21), (⟨"PuppetBarModel", "lackOf", "(III)I"⟩, 21), (⟨"PuppetBarModel", "moved", "(III[I)I"⟩, 21), (⟨"PuppetBarModel", "does", "(III)V"⟩, 21), (⟨"PuppetBarModel", "flip", "(I)V"⟩, 21), (⟨"PuppetBarModel", "stretch", "(II)V"⟩, 21), (⟨"PuppetBarModel", "ease", "(II)V"⟩, 21), (⟨"PuppetBarModel", "wholes", "(II)V"⟩, 21), (⟨"PuppetBarModel", "lean", "(I)V"⟩, 21), (⟨"PuppetBarModel", "mirror", "(II)V"⟩, 21), (⟨"PuppetBarModel", "stops", "(II)V"⟩, 21), (⟨"PuppetBarModel", "gather", "(I)V"⟩, 21)]
theorem lw_r3 : ∀ q ∈ lw_privs_3, lw_okq q := List.forall_mem_cons.mpr ⟨lw_p32, List.forall_mem_cons.mpr ⟨lw_p33, List.forall_mem_cons.mpr ⟨lw_p34, List.forall_mem_cons.mpr ⟨lw_p35, List.forall_mem_cons.mpr ⟨lw_p36, List.forall_mem_cons.mpr ⟨lw_p37, List.forall_mem_cons.mpr ⟨lw_p38, List.forall_mem_cons.mpr ⟨lw_p39, List.forall_mem_cons.mpr ⟨lw_p40, List.forall_mem_cons.mpr ⟨lw_p41, List.forall_mem_cons.mpr ⟨lw_p42, List.forall_mem_cons.mpr ⟨lw_p43, List.forall_mem_cons.mpr ⟨lw_p44, List.forall_mem_cons.mpr ⟨lw_p45, List.forall_mem_cons.mpr ⟨lw_p46, List.forall_mem_cons.mpr ⟨lw_p47, fun _ h => absurd h List.not_mem_nil⟩⟩⟩⟩⟩⟩⟩⟩⟩⟩⟩⟩⟩⟩⟩⟩
theorem lw_p48 : lw_okq (⟨"PuppetBarModel", "climb", "(I)V"⟩, 21) := ⟨⟨by decide +kernel, by decide +kernel⟩, List.mem_of_getElem? (i := 372) (by decide +kernel), List.mem_of_getElem? (i := 597) (by decide +kernel), List.mem_of_getElem? (i := 598) (by decide +kernel)⟩
theorem lw_p49 : lw_okq (⟨"PuppetBarModel", "isAhead", "(II)Z"⟩, 21) := ⟨⟨by decide +kernel, by decide +kernel⟩, List.mem_of_getElem? (i := 372) (by decide +kernel), List.mem_of_getElem? (i := 631) (by decide +kernel), List.mem_of_getElem? (i := 632) (by decide +kernel)⟩
def lw_privs_4 : List (MethodName × Nat) := [(⟨"PuppetBarModel", "climb", "(I)V"⟩, 21), (⟨"PuppetBarModel", "isAhead", "(II)Z"⟩, 21)]
theorem lw_r4 : ∀ q ∈ lw_privs_4, lw_okq q := List.forall_mem_cons.mpr ⟨lw_p48, List.forall_mem_cons.mpr ⟨lw_p49, fun _ h => absurd h List.not_mem_nil⟩⟩
def lw_privs : List (MethodName × Nat) := lw_privs_1 ++ (lw_privs_2 ++ (lw_privs_3 ++ (lw_privs_4)))
def lw_tbl : List Cond := k2_sels lw_privs ++ tables_1
theorem lw_privs_ok : ∀ q ∈ lw_privs, lw_okq q := by
  show ∀ q ∈ lw_privs_1 ++ (lw_privs_2 ++ (lw_privs_3 ++ (lw_privs_4))), lw_okq q
  exact List.forall_mem_append.mpr ⟨lw_r1, List.forall_mem_append.mpr ⟨lw_r2, List.forall_mem_append.mpr ⟨lw_r3, lw_r4⟩⟩⟩
end
section
/-! ===== BEGIN words of one list among another's, by their places ===== -/
theorem goodIn_r {big : List Cond} (ws : List Cond) (ps : List Nat) (hp : ws = ps.filterMap (fun i => big[i]?)) (h : ws.all goodWord = true) : GoodIn big ws := by
  intro w hw
  have h1 := List.all_eq_true.mp h w hw
  rw [hp] at hw
  obtain ⟨i, -, hi⟩ := List.mem_filterMap.mp hw
  have hm : w ∈ big := by first | exact List.mem_of_getElem? hi | exact List.getElem?_mem hi
  exact ⟨hm, good_of_word h1⟩
theorem goodIn_app {big a b : List Cond} (ha : GoodIn big a) (hb : GoodIn big b) : GoodIn big (a ++ b) := fun w h => (List.mem_append.mp h).elim (ha w) (hb w)
theorem goodIn_ca {big a b : List Cond} {c : Cond} (ha : GoodIn big (c :: a)) (hb : GoodIn big b) : GoodIn big (c :: (a ++ b)) := fun w h => (List.mem_cons.mp h).elim (fun e => ha w (List.mem_cons.mpr (Or.inl e))) (fun h => (List.mem_append.mp h).elim (fun h => ha w (List.mem_cons.mpr (Or.inr h))) (hb w))
theorem goodIn_sub {big ws : List Cond} (hm : ∀ w ∈ ws, w ∈ big) (h : ws.all goodWord = true) : GoodIn big ws := fun w hw => ⟨hm w hw, good_of_word (List.all_eq_true.mp h w hw)⟩
/-! ===== END ===== -/

/-! ===== BEGIN printed: names, fields, word lists, decode rows ===== -/
def RX0 : String := "PuppetBar$Figure"
def TX0 : u_T := fun k => match k with
  | 0 => ("PuppetBar$Figure", "moves", "[I", true)
  | 1 => ("PuppetBar$Figure", "threads", "[I", true)
  | 2 => ("PuppetBar$Figure", "others", "[I", true)
  | _ => ("PuppetBar$Figure", "size", "I", false)
def tyX0 : Nat → FieldType := fun k => match k with
  | 0 => .array .int
  | 1 => .array .int
  | 2 => .array .int
  | _ => .int
abbrev wsX00 : List Cond := u_ws RX0 TX0 4
theorem nmX0 : ∀ a, a < 4 → ∀ b, b < 4 → a ≠ b → (TX0 a).2.1 ≠ (TX0 b).2.1 := by decide +kernel
theorem tyX0_ok : ∀ k, k < 4 → parseFieldDescriptor (TX0 k).2.2.1 = some (tyX0 k) := by decide +kernel
abbrev cX0_init : ByteArray := prog_2_method_1_code
def yX0_init : MethodName := ⟨RX0, "<init>", "()V"⟩
def RX1 : String := "PuppetBar$Reals"
def TX1 : u_T := fun k => match k with
  | _ => ("", "", "", false)
def tyX1 : Nat → FieldType := fun k => match k with
  | _ => .int
abbrev wsX10 : List Cond := u_ws RX1 TX1 0
theorem nmX1 : ∀ a, a < 0 → ∀ b, b < 0 → a ≠ b → (TX1 a).2.1 ≠ (TX1 b).2.1 := by decide +kernel
theorem tyX1_ok : ∀ k, k < 0 → parseFieldDescriptor (TX1 k).2.2.1 = some (tyX1 k) := by decide +kernel
abbrev cX1_amount : ByteArray := prog_3_method_2_code
def yX1_amount : MethodName := ⟨RX1, "amount", "(J)J"⟩
abbrev cX1_shortAmount : ByteArray := prog_3_method_3_code
def yX1_shortAmount : MethodName := ⟨RX1, "shortAmount", "(I)I"⟩
abbrev cX1_withSign : ByteArray := prog_3_method_4_code
def yX1_withSign : MethodName := ⟨RX1, "withSign", "(JJ)J"⟩
abbrev cX1_shortWithSign : ByteArray := prog_3_method_5_code
def yX1_shortWithSign : MethodName := ⟨RX1, "shortWithSign", "(II)I"⟩
abbrev cX1_rank : ByteArray := prog_3_method_6_code
def yX1_rank : MethodName := ⟨RX1, "rank", "(J)J"⟩
abbrev cX1_shortRank : ByteArray := prog_3_method_7_code
def yX1_shortRank : MethodName := ⟨RX1, "shortRank", "(I)I"⟩
abbrev cX1_greater : ByteArray := prog_3_method_8_code
def yX1_greater : MethodName := ⟨RX1, "greater", "(JJ)J"⟩
abbrev cX1_lesser : ByteArray := prog_3_method_9_code
def yX1_lesser : MethodName := ⟨RX1, "lesser", "(JJ)J"⟩
abbrev cX1_shortGreater : ByteArray := prog_3_method_10_code
def yX1_shortGreater : MethodName := ⟨RX1, "shortGreater", "(II)I"⟩
abbrev cX1_shortLesser : ByteArray := prog_3_method_11_code
def yX1_shortLesser : MethodName := ⟨RX1, "shortLesser", "(II)I"⟩
abbrev cX1_power : ByteArray := prog_3_method_12_code
def yX1_power : MethodName := ⟨RX1, "power", "(JII)I"⟩
abbrev cX1_wholeBelow : ByteArray := prog_3_method_13_code
def yX1_wholeBelow : MethodName := ⟨RX1, "wholeBelow", "(JII)J"⟩
abbrev cX1_wholeAbove : ByteArray := prog_3_method_14_code
def yX1_wholeAbove : MethodName := ⟨RX1, "wholeAbove", "(JII)J"⟩
abbrev cX1_wholeNear : ByteArray := prog_3_method_15_code
def yX1_wholeNear : MethodName := ⟨RX1, "wholeNear", "(JII)J"⟩
abbrev cX1_nextWhole : ByteArray := prog_3_method_16_code
def yX1_nextWhole : MethodName := ⟨RX1, "nextWhole", "(JII)J"⟩
abbrev cX1_half : ByteArray := prog_3_method_17_code
def yX1_half : MethodName := ⟨RX1, "half", "(JIJ)J"⟩
abbrev cX1_twice : ByteArray := prog_3_method_18_code
def yX1_twice : MethodName := ⟨RX1, "twice", "(JIJ)J"⟩
def RX2 : String := "PuppetBar"
def TX2 : u_T := fun k => match k with
  | 0 => ("PuppetBar", "lengths", "[J", true)
  | 1 => ("PuppetBar", "pulls", "[I", true)
  | 2 => ("PuppetBar", "knots", "[I", true)
  | 3 => ("PuppetBar", "twists", "[J", true)
  | 4 => ("PuppetBar", "lows", "[J", true)
  | 5 => ("PuppetBar", "highs", "[J", true)
  | 6 => ("PuppetBar", "isCut", "[Z", true)
  | 7 => ("PuppetBar", "tilt", "J", false)
  | 8 => ("PuppetBar", "weight", "I", false)
  | 9 => ("PuppetBar", "count", "I", false)
  | 10 => ("PuppetBar", "turn", "J", false)
  | 11 => ("PuppetBar", "figure", "LPuppetBar$Figure;", true)
  | 12 => ("PuppetBar", "refusal", "I", false)
  | 13 => ("PuppetBar", "changes", "[I", true)
  | _ => ("PuppetBar", "latestDance", "[I", true)
def tyX2 : Nat → FieldType := fun k => match k with
  | 0 => .array .long
  | 1 => .array .int
  | 2 => .array .int
  | 3 => .array .long
  | 4 => .array .long
  | 5 => .array .long
  | 6 => .array .boolean
  | 7 => .long
  | 8 => .int
  | 9 => .int
  | 10 => .long
  | 11 => .object "PuppetBar$Figure"
  | 12 => .int
  | 13 => .array .int
  | _ => .array .int
abbrev wsX20 : List Cond := u_ws RX2 TX2 15
theorem nmX2 : ∀ a, a < 15 → ∀ b, b < 15 → a ≠ b → (TX2 a).2.1 ≠ (TX2 b).2.1 := by decide +kernel
theorem tyX2_ok : ∀ k, k < 15 → parseFieldDescriptor (TX2 k).2.2.1 = some (tyX2 k) := by decide +kernel
abbrev cX2_init : ByteArray := prog_1_method_1_code
def yX2_init : MethodName := ⟨RX2, "<init>", "()V"⟩
abbrev cX2_set : ByteArray := prog_1_method_2_code
def yX2_set : MethodName := ⟨RX2, "set", "(IIJ)I"⟩
abbrev cX2_get : ByteArray := prog_1_method_3_code
def yX2_get : MethodName := ⟨RX2, "get", "(II)J"⟩
abbrev cX2_refused : ByteArray := prog_1_method_4_code
def yX2_refused : MethodName := ⟨RX2, "refused", "()I"⟩
abbrev cX2_cut : ByteArray := prog_1_method_5_code
def yX2_cut : MethodName := ⟨RX2, "cut", "(I)I"⟩
abbrev cX2_string : ByteArray := prog_1_method_6_code
def yX2_string : MethodName := ⟨RX2, "string", "(I)I"⟩
abbrev cX2_move : ByteArray := prog_1_method_7_code
def yX2_move : MethodName := ⟨RX2, "move", "(III)I"⟩
abbrev cX2_step : ByteArray := prog_1_method_8_code
def yX2_step : MethodName := ⟨RX2, "step", "(III)I"⟩
abbrev cX2_forget : ByteArray := prog_1_method_9_code
def yX2_forget : MethodName := ⟨RX2, "forget", "()I"⟩
abbrev cX2_dance : ByteArray := prog_1_method_10_code
def yX2_dance : MethodName := ⟨RX2, "dance", "(I)I"⟩
abbrev cX2_danced : ByteArray := prog_1_method_11_code
def yX2_danced : MethodName := ⟨RX2, "danced", "(I)I"⟩
abbrev cX2_bar : ByteArray := prog_1_method_12_code
def yX2_bar : MethodName := ⟨RX2, "bar", "(I)J"⟩
abbrev cX2_order : ByteArray := prog_1_method_13_code
def yX2_order : MethodName := ⟨RX2, "order", "(I)I"⟩
abbrev cX2_refusalOfThread : ByteArray := prog_1_method_14_code
def yX2_refusalOfThread : MethodName := ⟨RX2, "refusalOfThread", "(I)I"⟩
abbrev cX2_refusalOfPart : ByteArray := prog_1_method_15_code
def yX2_refusalOfPart : MethodName := ⟨RX2, "refusalOfPart", "(II)I"⟩
abbrev cX2_refusalOfSetting : ByteArray := prog_1_method_16_code
def yX2_refusalOfSetting : MethodName := ⟨RX2, "refusalOfSetting", "(IIJ)I"⟩
abbrev cX2_isNumber : ByteArray := prog_1_method_17_code
def yX2_isNumber : MethodName := ⟨RX2, "isNumber", "(IJ)Z"⟩
abbrev cX2_refusalOfStringing : ByteArray := prog_1_method_18_code
def yX2_refusalOfStringing : MethodName := ⟨RX2, "refusalOfStringing", "(I)I"⟩
abbrev cX2_refusalOfMove : ByteArray := prog_1_method_19_code
def yX2_refusalOfMove : MethodName := ⟨RX2, "refusalOfMove", "(III)I"⟩
abbrev cX2_wantsOther : ByteArray := prog_1_method_20_code
def yX2_wantsOther : MethodName := ⟨RX2, "wantsOther", "(I)Z"⟩
abbrev cX2_stringAnew : ByteArray := prog_1_method_21_code
def yX2_stringAnew : MethodName := ⟨RX2, "stringAnew", "(I)V"⟩
abbrev cX2_write : ByteArray := prog_1_method_22_code
def yX2_write : MethodName := ⟨RX2, "write", "(IIJ)V"⟩
abbrev cX2_read : ByteArray := prog_1_method_23_code
def yX2_read : MethodName := ⟨RX2, "read", "(II)J"⟩
abbrev cX2_changeLength : ByteArray := prog_1_method_24_code
def yX2_changeLength : MethodName := ⟨RX2, "changeLength", "(IJ)V"⟩
abbrev cX2_changePull : ByteArray := prog_1_method_25_code
def yX2_changePull : MethodName := ⟨RX2, "changePull", "(II)V"⟩
abbrev cX2_changeKnots : ByteArray := prog_1_method_26_code
def yX2_changeKnots : MethodName := ⟨RX2, "changeKnots", "(II)V"⟩
abbrev cX2_changeTwist : ByteArray := prog_1_method_27_code
def yX2_changeTwist : MethodName := ⟨RX2, "changeTwist", "(IJ)V"⟩
abbrev cX2_clearChanges : ByteArray := prog_1_method_28_code
def yX2_clearChanges : MethodName := ⟨RX2, "clearChanges", "()V"⟩
abbrev cX2_perform : ByteArray := prog_1_method_29_code
def yX2_perform : MethodName := ⟨RX2, "perform", "(III)V"⟩
abbrev cX2_flip : ByteArray := prog_1_method_30_code
def yX2_flip : MethodName := ⟨RX2, "flip", "(I)V"⟩
abbrev cX2_stretch : ByteArray := prog_1_method_31_code
def yX2_stretch : MethodName := ⟨RX2, "stretch", "(II)V"⟩
abbrev cX2_ease : ByteArray := prog_1_method_32_code
def yX2_ease : MethodName := ⟨RX2, "ease", "(II)V"⟩
abbrev cX2_letToWhole : ByteArray := prog_1_method_33_code
def yX2_letToWhole : MethodName := ⟨RX2, "letToWhole", "(IZZ)V"⟩
abbrev cX2_letNear : ByteArray := prog_1_method_34_code
def yX2_letNear : MethodName := ⟨RX2, "letNear", "(I)V"⟩
abbrev cX2_lean : ByteArray := prog_1_method_35_code
def yX2_lean : MethodName := ⟨RX2, "lean", "(I)V"⟩
abbrev cX2_mirror : ByteArray := prog_1_method_36_code
def yX2_mirror : MethodName := ⟨RX2, "mirror", "(II)V"⟩
abbrev cX2_hold : ByteArray := prog_1_method_37_code
def yX2_hold : MethodName := ⟨RX2, "hold", "(I)V"⟩
abbrev cX2_placeStops : ByteArray := prog_1_method_38_code
def yX2_placeStops : MethodName := ⟨RX2, "placeStops", "(II)V"⟩
abbrev cX2_gather : ByteArray := prog_1_method_39_code
def yX2_gather : MethodName := ⟨RX2, "gather", "(I)V"⟩
abbrev cX2_trade : ByteArray := prog_1_method_40_code
def yX2_trade : MethodName := ⟨RX2, "trade", "(II)V"⟩
abbrev cX2_climb : ByteArray := prog_1_method_41_code
def yX2_climb : MethodName := ⟨RX2, "climb", "(I)V"⟩
abbrev cX2_halve : ByteArray := prog_1_method_42_code
def yX2_halve : MethodName := ⟨RX2, "halve", "(I)V"⟩
abbrev cX2_makeTwice : ByteArray := prog_1_method_43_code
def yX2_makeTwice : MethodName := ⟨RX2, "makeTwice", "(I)V"⟩
abbrev cX2_give : ByteArray := prog_1_method_44_code
def yX2_give : MethodName := ⟨RX2, "give", "(I)V"⟩
abbrev cX2_changeAmounts : ByteArray := prog_1_method_45_code
def yX2_changeAmounts : MethodName := ⟨RX2, "changeAmounts", "(IJJ)V"⟩
abbrev cX2_danceOnce : ByteArray := prog_1_method_46_code
def yX2_danceOnce : MethodName := ⟨RX2, "danceOnce", "()I"⟩
abbrev cX2_keepDance : ByteArray := prog_1_method_47_code
def yX2_keepDance : MethodName := ⟨RX2, "keepDance", "(I)V"⟩
abbrev cX2_placeOf : ByteArray := prog_1_method_48_code
def yX2_placeOf : MethodName := ⟨RX2, "placeOf", "(I)I"⟩
abbrev cX2_isAhead : ByteArray := prog_1_method_49_code
def yX2_isAhead : MethodName := ⟨RX2, "isAhead", "(II)Z"⟩
abbrev cX2_compareStrung : ByteArray := prog_1_method_50_code
def yX2_compareStrung : MethodName := ⟨RX2, "compareStrung", "(II)I"⟩
def RX3 : String := "PuppetBarModel"
def TX3 : u_T := fun k => match k with
  | 0 => ("PuppetBarModel", "isCut", "[Z", true)
  | 1 => ("PuppetBarModel", "length", "[J", true)
  | 2 => ("PuppetBarModel", "pull", "[I", true)
  | 3 => ("PuppetBarModel", "knots", "[I", true)
  | 4 => ("PuppetBarModel", "twist", "[J", true)
  | 5 => ("PuppetBarModel", "low", "[J", true)
  | 6 => ("PuppetBarModel", "high", "[J", true)
  | 7 => ("PuppetBarModel", "tilt", "J", false)
  | 8 => ("PuppetBarModel", "weight", "I", false)
  | 9 => ("PuppetBarModel", "count", "I", false)
  | 10 => ("PuppetBarModel", "turn", "J", false)
  | 11 => ("PuppetBarModel", "refusal", "I", false)
  | 12 => ("PuppetBarModel", "steps", "I", false)
  | 13 => ("PuppetBarModel", "figure", "[I", true)
  | 14 => ("PuppetBarModel", "endedAt", "I", false)
  | 15 => ("PuppetBarModel", "changed", "[I", true)
  | 16 => ("PuppetBarModel", "lengthWas", "[J", true)
  | 17 => ("PuppetBarModel", "pullWas", "[I", true)
  | 18 => ("PuppetBarModel", "knotsWas", "[I", true)
  | 19 => ("PuppetBarModel", "twistWas", "[J", true)
  | _ => ("PuppetBarModel", "alone", "[I", true)
def tyX3 : Nat → FieldType := fun k => match k with
  | 0 => .array .boolean
  | 1 => .array .long
  | 2 => .array .int
  | 3 => .array .int
  | 4 => .array .long
  | 5 => .array .long
  | 6 => .array .long
  | 7 => .long
  | 8 => .int
  | 9 => .int
  | 10 => .long
  | 11 => .int
  | 12 => .int
  | 13 => .array .int
  | 14 => .int
  | 15 => .array .int
  | 16 => .array .long
  | 17 => .array .int
  | 18 => .array .int
  | 19 => .array .long
  | _ => .array .int
abbrev wsX30 : List Cond := u_ws RX3 TX3 21
theorem nmX3 : ∀ a, a < 21 → ∀ b, b < 21 → a ≠ b → (TX3 a).2.1 ≠ (TX3 b).2.1 := by decide +kernel
theorem tyX3_ok : ∀ k, k < 21 → parseFieldDescriptor (TX3 k).2.2.1 = some (tyX3 k) := by decide +kernel
abbrev cX3_init : ByteArray := prog_5_method_1_code
def yX3_init : MethodName := ⟨RX3, "<init>", "()V"⟩
abbrev cX3_begin : ByteArray := prog_5_method_2_code
def yX3_begin : MethodName := ⟨RX3, "begin", "(I)V"⟩
abbrev cX3_sign : ByteArray := prog_5_method_3_code
def yX3_sign : MethodName := ⟨RX3, "sign", "(I)J"⟩
abbrev cX3_bias : ByteArray := prog_5_method_4_code
def yX3_bias : MethodName := ⟨RX3, "bias", "(I)J"⟩
abbrev cX3_one : ByteArray := prog_5_method_5_code
def yX3_one : MethodName := ⟨RX3, "one", "(I)J"⟩
abbrev cX3_endless : ByteArray := prog_5_method_6_code
def yX3_endless : MethodName := ⟨RX3, "endless", "(I)J"⟩
abbrev cX3_amount : ByteArray := prog_5_method_7_code
def yX3_amount : MethodName := ⟨RX3, "amount", "(JI)J"⟩
abbrev cX3_isBelow : ByteArray := prog_5_method_8_code
def yX3_isBelow : MethodName := ⟨RX3, "isBelow", "(JI)Z"⟩
abbrev cX3_isNumber : ByteArray := prog_5_method_9_code
def yX3_isNumber : MethodName := ⟨RX3, "isNumber", "(JI)Z"⟩
abbrev cX3_down : ByteArray := prog_5_method_10_code
def yX3_down : MethodName := ⟨RX3, "down", "(JI)J"⟩
abbrev cX3_up : ByteArray := prog_5_method_11_code
def yX3_up : MethodName := ⟨RX3, "up", "(JI)J"⟩
abbrev cX3_near : ByteArray := prog_5_method_12_code
def yX3_near : MethodName := ⟨RX3, "near", "(JI)J"⟩
abbrev cX3_half : ByteArray := prog_5_method_13_code
def yX3_half : MethodName := ⟨RX3, "half", "(JI)J"⟩
abbrev cX3_twice : ByteArray := prog_5_method_14_code
def yX3_twice : MethodName := ⟨RX3, "twice", "(JI)J"⟩
abbrev cX3_place : ByteArray := prog_5_method_15_code
def yX3_place : MethodName := ⟨RX3, "place", "(J)J"⟩
abbrev cX3_place4 : ByteArray := prog_5_method_16_code
def yX3_place4 : MethodName := ⟨RX3, "place4", "(I)I"⟩
abbrev cX3_greater : ByteArray := prog_5_method_17_code
def yX3_greater : MethodName := ⟨RX3, "greater", "(JJ)J"⟩
abbrev cX3_lesser : ByteArray := prog_5_method_18_code
def yX3_lesser : MethodName := ⟨RX3, "lesser", "(JJ)J"⟩
abbrev cX3_greater4 : ByteArray := prog_5_method_19_code
def yX3_greater4 : MethodName := ⟨RX3, "greater4", "(II)I"⟩
abbrev cX3_lesser4 : ByteArray := prog_5_method_20_code
def yX3_lesser4 : MethodName := ⟨RX3, "lesser4", "(II)I"⟩
abbrev cX3_thin : ByteArray := prog_5_method_21_code
def yX3_thin : MethodName := ⟨RX3, "thin", "(I)J"⟩
abbrev cX3_amount4 : ByteArray := prog_5_method_22_code
def yX3_amount4 : MethodName := ⟨RX3, "amount4", "(I)I"⟩
abbrev cX3_isThread : ByteArray := prog_5_method_23_code
def yX3_isThread : MethodName := ⟨RX3, "isThread", "(I)Z"⟩
abbrev cX3_lack : ByteArray := prog_5_method_24_code
def yX3_lack : MethodName := ⟨RX3, "lack", "(I)I"⟩
abbrev cX3_isReal : ByteArray := prog_5_method_25_code
def yX3_isReal : MethodName := ⟨RX3, "isReal", "(I)Z"⟩
abbrev cX3_set : ByteArray := prog_5_method_26_code
def yX3_set : MethodName := ⟨RX3, "set", "(IIJ)I"⟩
abbrev cX3_get : ByteArray := prog_5_method_27_code
def yX3_get : MethodName := ⟨RX3, "get", "(II)J"⟩
abbrev cX3_refused : ByteArray := prog_5_method_28_code
def yX3_refused : MethodName := ⟨RX3, "refused", "()I"⟩
abbrev cX3_cut : ByteArray := prog_5_method_29_code
def yX3_cut : MethodName := ⟨RX3, "cut", "(I)I"⟩
abbrev cX3_string : ByteArray := prog_5_method_30_code
def yX3_string : MethodName := ⟨RX3, "string", "(I)I"⟩
abbrev cX3_wantsOther : ByteArray := prog_5_method_31_code
def yX3_wantsOther : MethodName := ⟨RX3, "wantsOther", "(I)Z"⟩
abbrev cX3_lackOf : ByteArray := prog_5_method_32_code
def yX3_lackOf : MethodName := ⟨RX3, "lackOf", "(III)I"⟩
abbrev cX3_flip : ByteArray := prog_5_method_33_code
def yX3_flip : MethodName := ⟨RX3, "flip", "(I)V"⟩
abbrev cX3_stretch : ByteArray := prog_5_method_34_code
def yX3_stretch : MethodName := ⟨RX3, "stretch", "(II)V"⟩
abbrev cX3_ease : ByteArray := prog_5_method_35_code
def yX3_ease : MethodName := ⟨RX3, "ease", "(II)V"⟩
abbrev cX3_wholes : ByteArray := prog_5_method_36_code
def yX3_wholes : MethodName := ⟨RX3, "wholes", "(II)V"⟩
abbrev cX3_lean : ByteArray := prog_5_method_37_code
def yX3_lean : MethodName := ⟨RX3, "lean", "(I)V"⟩
abbrev cX3_mirror : ByteArray := prog_5_method_38_code
def yX3_mirror : MethodName := ⟨RX3, "mirror", "(II)V"⟩
abbrev cX3_stops : ByteArray := prog_5_method_39_code
def yX3_stops : MethodName := ⟨RX3, "stops", "(II)V"⟩
abbrev cX3_gather : ByteArray := prog_5_method_40_code
def yX3_gather : MethodName := ⟨RX3, "gather", "(I)V"⟩
abbrev cX3_trade : ByteArray := prog_5_method_41_code
def yX3_trade : MethodName := ⟨RX3, "trade", "([JII)V"⟩
abbrev cX3_trade4 : ByteArray := prog_5_method_42_code
def yX3_trade4 : MethodName := ⟨RX3, "trade4", "([III)V"⟩
abbrev cX3_climb : ByteArray := prog_5_method_43_code
def yX3_climb : MethodName := ⟨RX3, "climb", "(I)V"⟩
abbrev cX3_does : ByteArray := prog_5_method_44_code
def yX3_does : MethodName := ⟨RX3, "does", "(III)V"⟩
abbrev cX3_moved : ByteArray := prog_5_method_45_code
def yX3_moved : MethodName := ⟨RX3, "moved", "(III[I)I"⟩
abbrev cX3_move : ByteArray := prog_5_method_46_code
def yX3_move : MethodName := ⟨RX3, "move", "(III)I"⟩
abbrev cX3_step : ByteArray := prog_5_method_47_code
def yX3_step : MethodName := ⟨RX3, "step", "(III)I"⟩
abbrev cX3_forget : ByteArray := prog_5_method_48_code
def yX3_forget : MethodName := ⟨RX3, "forget", "()I"⟩
abbrev cX3_dance : ByteArray := prog_5_method_49_code
def yX3_dance : MethodName := ⟨RX3, "dance", "(I)I"⟩
abbrev cX3_danced : ByteArray := prog_5_method_50_code
def yX3_danced : MethodName := ⟨RX3, "danced", "(I)I"⟩
abbrev cX3_bar : ByteArray := prog_5_method_51_code
def yX3_bar : MethodName := ⟨RX3, "bar", "(I)J"⟩
abbrev cX3_isAhead : ByteArray := prog_5_method_52_code
def yX3_isAhead : MethodName := ⟨RX3, "isAhead", "(II)Z"⟩
abbrev cX3_order : ByteArray := prog_5_method_53_code
def yX3_order : MethodName := ⟨RX3, "order", "(I)I"⟩
def RJ6 : String := "java/lang/Integer"
def TJ6 : u_T := fun k => match k with
  | _ => ("", "", "", false)
def tyJ6 : Nat → FieldType := fun k => match k with
  | _ => .int
abbrev wsJ60 : List Cond := u_ws RJ6 TJ6 0
theorem nmJ6 : ∀ a, a < 0 → ∀ b, b < 0 → a ≠ b → (TJ6 a).2.1 ≠ (TJ6 b).2.1 := by decide +kernel
theorem tyJ6_ok : ∀ k, k < 0 → parseFieldDescriptor (TJ6 k).2.2.1 = some (tyJ6 k) := by decide +kernel
abbrev cJ6_compare_7cf53 : ByteArray := prog_6_method_40_code
def yJ6_compare_7cf53 : MethodName := ⟨RJ6, "compare", "(II)I"⟩
def RJ13 : String := "java/lang/Long"
def TJ13 : u_T := fun k => match k with
  | _ => ("", "", "", false)
def tyJ13 : Nat → FieldType := fun k => match k with
  | _ => .int
abbrev wsJ130 : List Cond := u_ws RJ13 TJ13 0
theorem nmJ13 : ∀ a, a < 0 → ∀ b, b < 0 → a ≠ b → (TJ13 a).2.1 ≠ (TJ13 b).2.1 := by decide +kernel
theorem tyJ13_ok : ∀ k, k < 0 → parseFieldDescriptor (TJ13 k).2.2.1 = some (tyJ13 k) := by decide +kernel
abbrev cJ13_compare_74951 : ByteArray := prog_7_method_42_code
def yJ13_compare_74951 : MethodName := ⟨RJ13, "compare", "(JJ)I"⟩
def RJ9 : String := "java/lang/Math"
def TJ9 : u_T := fun k => match k with
  | _ => ("", "", "", false)
def tyJ9 : Nat → FieldType := fun k => match k with
  | _ => .int
abbrev wsJ90 : List Cond := u_ws RJ9 TJ9 0
theorem nmJ9 : ∀ a, a < 0 → ∀ b, b < 0 → a ≠ b → (TJ9 a).2.1 ≠ (TJ9 b).2.1 := by decide +kernel
theorem tyJ9_ok : ∀ k, k < 0 → parseFieldDescriptor (TJ9 k).2.2.1 = some (tyJ9 k) := by decide +kernel
abbrev cJ9_abs_0f7a4 : ByteArray := prog_8_method_59_code
def yJ9_abs_0f7a4 : MethodName := ⟨RJ9, "abs", "(I)I"⟩
abbrev cJ9_abs_067f4 : ByteArray := prog_8_method_61_code
def yJ9_abs_067f4 : MethodName := ⟨RJ9, "abs", "(J)J"⟩
abbrev cJ9_max_7cf53 : ByteArray := prog_8_method_65_code
def yJ9_max_7cf53 : MethodName := ⟨RJ9, "max", "(II)I"⟩
abbrev cJ9_max_f86c9 : ByteArray := prog_8_method_66_code
def yJ9_max_f86c9 : MethodName := ⟨RJ9, "max", "(JJ)J"⟩
abbrev cJ9_min_7cf53 : ByteArray := prog_8_method_69_code
def yJ9_min_7cf53 : MethodName := ⟨RJ9, "min", "(II)I"⟩
abbrev cJ9_min_f86c9 : ByteArray := prog_8_method_70_code
def yJ9_min_f86c9 : MethodName := ⟨RJ9, "min", "(JJ)J"⟩
def RL : String := "PuppetBarLaw"
abbrev cL_law : ByteArray := code
def yL_law : MethodName := ⟨RL, "law", "([I)Z"⟩
def wsX0_init : List Cond := .code yX0_init cX0_init 1 none :: ([.methodLink RX0 3 objectInit, .instanceMethod objectInit, .code objectInit ⟨#[0xb1]⟩ 1 none, .arrayClass .int, .fieldLink RX0 9 "PuppetBar$Figure" "moves" "[I", .fieldLink RX0 15 "PuppetBar$Figure" "threads" "[I", .fieldLink RX0 18 "PuppetBar$Figure" "others" "[I", .fieldLink RX0 21 "PuppetBar$Figure" "size" "I"] ++ wsX00)
def wsX1_amount : List Cond := .code yX1_amount cX1_amount 2 (some .long) :: ([.constantLong RX1 9 (9223372036854775807)])
def wsX1_shortAmount : List Cond := .code yX1_shortAmount cX1_shortAmount 1 (some .int) :: ([.constant RX1 11 (2147483647)])
def wsX1_withSign : List Cond := .code yX1_withSign cX1_withSign 4 (some .long) :: ([.constantLong RX1 12 (-9223372036854775808)])
def wsX1_shortWithSign : List Cond := .code yX1_shortWithSign cX1_shortWithSign 2 (some .int) :: ([.constant RX1 14 (-2147483648)])
def wsX1_rank : List Cond := .code yX1_rank cX1_rank 2 (some .long) :: ([.constantLong RX1 9 (9223372036854775807)])
def wsX1_shortRank : List Cond := .code yX1_shortRank cX1_shortRank 1 (some .int) :: ([.constant RX1 11 (2147483647)])
def wsX1_greater : List Cond := .code yX1_greater cX1_greater 4 (some .long) :: ([.methodLink RX1 15 yX1_rank, .static yX1_rank, .initialized RX1, .code yX1_rank cX1_rank 2 (some .long), .constantLong RX1 9 (9223372036854775807)])
def wsX1_lesser : List Cond := .code yX1_lesser cX1_lesser 4 (some .long) :: ([.methodLink RX1 15 yX1_rank, .static yX1_rank, .initialized RX1, .code yX1_rank cX1_rank 2 (some .long), .constantLong RX1 9 (9223372036854775807)])
def wsX1_shortGreater : List Cond := .code yX1_shortGreater cX1_shortGreater 2 (some .int) :: ([.methodLink RX1 19 yX1_shortRank, .static yX1_shortRank, .initialized RX1, .code yX1_shortRank cX1_shortRank 1 (some .int), .constant RX1 11 (2147483647)])
def wsX1_shortLesser : List Cond := .code yX1_shortLesser cX1_shortLesser 2 (some .int) :: ([.methodLink RX1 19 yX1_shortRank, .static yX1_shortRank, .initialized RX1, .code yX1_shortRank cX1_shortRank 1 (some .int), .constant RX1 11 (2147483647)])
def wsX1_power : List Cond := .code yX1_power cX1_power 4 (some .int) :: ([])
def wsX1_wholeBelow : List Cond := .code yX1_wholeBelow cX1_wholeBelow 5 (some .long) :: ([.methodLink RX1 23 yX1_power, .static yX1_power, .initialized RX1, .code yX1_power cX1_power 4 (some .int)])
def wsX1_nextWhole : List Cond := .code yX1_nextWhole cX1_nextWhole 4 (some .long) :: ([.methodLink RX1 23 yX1_power, .static yX1_power, .initialized RX1, .code yX1_power cX1_power 4 (some .int)])
def wsX1_wholeAbove : List Cond := .code yX1_wholeAbove cX1_wholeAbove 6 (some .long) :: ([.methodLink RX1 27 yX1_wholeBelow, .static yX1_wholeBelow, .initialized RX1, .code yX1_wholeBelow cX1_wholeBelow 5 (some .long), .methodLink RX1 23 yX1_power, .static yX1_power, .code yX1_power cX1_power 4 (some .int), .methodLink RX1 31 yX1_nextWhole, .static yX1_nextWhole, .code yX1_nextWhole cX1_nextWhole 4 (some .long)])
def wsX1_wholeNear : List Cond := .code yX1_wholeNear cX1_wholeNear 13 (some .long) :: ([.methodLink RX1 27 yX1_wholeBelow, .static yX1_wholeBelow, .initialized RX1, .code yX1_wholeBelow cX1_wholeBelow 5 (some .long), .methodLink RX1 23 yX1_power, .static yX1_power, .code yX1_power cX1_power 4 (some .int), .methodLink RX1 31 yX1_nextWhole, .static yX1_nextWhole, .code yX1_nextWhole cX1_nextWhole 4 (some .long)])
def wsX1_half : List Cond := .code yX1_half cX1_half 9 (some .long) :: ([.constantLong RX1 34 (2)])
def wsX1_twice : List Cond := .code yX1_twice cX1_twice 9 (some .long) :: ([])
def wsX2_stringAnew : List Cond := .code yX2_stringAnew cX2_stringAnew 2 none :: ([.fieldLink RX2 29 "PuppetBar" "isCut" "[Z", .fieldLink RX2 9 "PuppetBar" "lengths" "[J", .fieldLink RX2 13 "PuppetBar" "pulls" "[I", .fieldLink RX2 17 "PuppetBar" "knots" "[I", .fieldLink RX2 20 "PuppetBar" "twists" "[J", .fieldLink RX2 23 "PuppetBar" "lows" "[J", .constantLong RX2 143 (-4503599627370496), .fieldLink RX2 26 "PuppetBar" "highs" "[J", .constantLong RX2 133 (9218868437227405312)] ++ wsX20)
def wsX2_init_r1 : List Cond := [Cond.methodLink RX2 1 objectInit, Cond.instanceMethod objectInit, Cond.code objectInit ⟨#[0xb1]⟩ 1 none, Cond.arrayClass .long, Cond.fieldLink RX2 9 "PuppetBar" "lengths" "[J", Cond.arrayClass .int, Cond.fieldLink RX2 13 "PuppetBar" "pulls" "[I", Cond.fieldLink RX2 17 "PuppetBar" "knots" "[I", Cond.fieldLink RX2 20 "PuppetBar" "twists" "[J", Cond.fieldLink RX2 23 "PuppetBar" "lows" "[J", Cond.fieldLink RX2 26 "PuppetBar" "highs" "[J", Cond.arrayClass .boolean, Cond.fieldLink RX2 29 "PuppetBar" "isCut" "[Z", Cond.fieldLink RX2 33 "PuppetBar" "tilt" "J", Cond.fieldLink RX2 37 "PuppetBar" "weight" "I", Cond.fieldLink RX2 41 "PuppetBar" "count" "I", Cond.fieldLink RX2 44 "PuppetBar" "turn" "J", Cond.classLink RX2 47 RX0, Cond.instantiable RX0 4, Cond.initialized RX0, Cond.fieldLink RX2 50 "PuppetBar" "figure" "LPuppetBar$Figure;", Cond.fieldLink RX2 54 "PuppetBar" "refusal" "I", Cond.fieldLink RX2 57 "PuppetBar" "changes" "[I", Cond.fieldLink RX2 60 "PuppetBar" "latestDance" "[I"]
def wsX2_init_r2 : List Cond := [Cond.instanceMethod yX0_init, Cond.code yX0_init cX0_init 1 none, Cond.methodLink RX0 3 objectInit, Cond.fieldLink RX0 9 "PuppetBar$Figure" "moves" "[I", Cond.fieldLink RX0 15 "PuppetBar$Figure" "threads" "[I", Cond.fieldLink RX0 18 "PuppetBar$Figure" "others" "[I", Cond.fieldLink RX0 21 "PuppetBar$Figure" "size" "I", Cond.methodLink RX2 63 yX2_stringAnew, Cond.instanceMethod yX2_stringAnew, Cond.selects RX2 yX2_stringAnew yX2_stringAnew, Cond.initialized RX2, Cond.code yX2_stringAnew cX2_stringAnew 2 none, Cond.constantLong RX2 143 (-4503599627370496), Cond.constantLong RX2 133 (9218868437227405312)]
def wsX2_init : List Cond := .code yX2_init cX2_init 2 none :: ((wsX2_init_r1 ++ wsX2_init_r2) ++ wsX20 ++ wsX00)
def wsX2_refusalOfThread : List Cond := .code yX2_refusalOfThread cX2_refusalOfThread 2 (some .int) :: ([.fieldLink RX2 29 "PuppetBar" "isCut" "[Z"] ++ wsX20)
def wsX2_refusalOfPart : List Cond := .code yX2_refusalOfPart cX2_refusalOfPart 3 (some .int) :: ([.methodLink RX2 83 yX2_refusalOfThread, .instanceMethod yX2_refusalOfThread, .selects RX2 yX2_refusalOfThread yX2_refusalOfThread, .initialized RX2, .code yX2_refusalOfThread cX2_refusalOfThread 2 (some .int), .fieldLink RX2 29 "PuppetBar" "isCut" "[Z"] ++ wsX20)
def wsX2_isNumber : List Cond := .code yX2_isNumber cX2_isNumber 3 (some .boolean) :: ([.constantLong RX2 133 (9218868437227405312), .constant RX2 138 (2139095040), .methodLink RX2 127 yX1_amount, .static yX1_amount, .initialized RX1, .code yX1_amount cX1_amount 2 (some .long), .constantLong RX1 9 (9223372036854775807), .methodLink RX2 135 yX1_shortAmount, .static yX1_shortAmount, .code yX1_shortAmount cX1_shortAmount 1 (some .int), .constant RX1 11 (2147483647)])
def wsX2_refusalOfSetting : List Cond := .code yX2_refusalOfSetting cX2_refusalOfSetting 6 (some .int) :: ([.methodLink RX2 75 yX2_refusalOfPart, .instanceMethod yX2_refusalOfPart, .selects RX2 yX2_refusalOfPart yX2_refusalOfPart, .initialized RX2, .code yX2_refusalOfPart cX2_refusalOfPart 3 (some .int), .methodLink RX2 83 yX2_refusalOfThread, .instanceMethod yX2_refusalOfThread, .selects RX2 yX2_refusalOfThread yX2_refusalOfThread, .code yX2_refusalOfThread cX2_refusalOfThread 2 (some .int), .fieldLink RX2 29 "PuppetBar" "isCut" "[Z", .methodLink RX2 123 yX2_isNumber, .static yX2_isNumber, .code yX2_isNumber cX2_isNumber 3 (some .boolean), .constantLong RX2 133 (9218868437227405312), .constant RX2 138 (2139095040), .methodLink RX2 127 yX1_amount, .static yX1_amount, .initialized RX1, .code yX1_amount cX1_amount 2 (some .long), .constantLong RX1 9 (9223372036854775807), .methodLink RX2 135 yX1_shortAmount, .static yX1_shortAmount, .code yX1_shortAmount cX1_shortAmount 1 (some .int), .constant RX1 11 (2147483647)] ++ wsX20)
def wsX2_write : List Cond := .code yX2_write cX2_write 5 none :: ([.fieldLink RX2 9 "PuppetBar" "lengths" "[J", .fieldLink RX2 13 "PuppetBar" "pulls" "[I", .fieldLink RX2 17 "PuppetBar" "knots" "[I", .fieldLink RX2 20 "PuppetBar" "twists" "[J", .fieldLink RX2 23 "PuppetBar" "lows" "[J", .fieldLink RX2 26 "PuppetBar" "highs" "[J"] ++ wsX20)
def wsX2_set_r1 : List Cond := [Cond.fieldLink RX2 54 "PuppetBar" "refusal" "I", Cond.methodLink RX2 67 yX2_refusalOfSetting, Cond.instanceMethod yX2_refusalOfSetting, Cond.selects RX2 yX2_refusalOfSetting yX2_refusalOfSetting, Cond.initialized RX2, Cond.code yX2_refusalOfSetting cX2_refusalOfSetting 6 (some .int), Cond.methodLink RX2 75 yX2_refusalOfPart, Cond.instanceMethod yX2_refusalOfPart, Cond.selects RX2 yX2_refusalOfPart yX2_refusalOfPart, Cond.code yX2_refusalOfPart cX2_refusalOfPart 3 (some .int), Cond.methodLink RX2 83 yX2_refusalOfThread, Cond.instanceMethod yX2_refusalOfThread, Cond.selects RX2 yX2_refusalOfThread yX2_refusalOfThread, Cond.code yX2_refusalOfThread cX2_refusalOfThread 2 (some .int), Cond.fieldLink RX2 29 "PuppetBar" "isCut" "[Z", Cond.methodLink RX2 123 yX2_isNumber, Cond.static yX2_isNumber, Cond.code yX2_isNumber cX2_isNumber 3 (some .boolean), Cond.constantLong RX2 133 (9218868437227405312), Cond.constant RX2 138 (2139095040), Cond.methodLink RX2 127 yX1_amount, Cond.static yX1_amount, Cond.initialized RX1, Cond.code yX1_amount cX1_amount 2 (some .long)]
def wsX2_set_r2 : List Cond := [Cond.constantLong RX1 9 (9223372036854775807), Cond.methodLink RX2 135 yX1_shortAmount, Cond.static yX1_shortAmount, Cond.code yX1_shortAmount cX1_shortAmount 1 (some .int), Cond.constant RX1 11 (2147483647), Cond.methodLink RX2 71 yX2_write, Cond.instanceMethod yX2_write, Cond.selects RX2 yX2_write yX2_write, Cond.code yX2_write cX2_write 5 none, Cond.fieldLink RX2 9 "PuppetBar" "lengths" "[J", Cond.fieldLink RX2 13 "PuppetBar" "pulls" "[I", Cond.fieldLink RX2 17 "PuppetBar" "knots" "[I", Cond.fieldLink RX2 20 "PuppetBar" "twists" "[J", Cond.fieldLink RX2 23 "PuppetBar" "lows" "[J", Cond.fieldLink RX2 26 "PuppetBar" "highs" "[J"]
def wsX2_set : List Cond := .code yX2_set cX2_set 5 (some .int) :: ((wsX2_set_r1 ++ wsX2_set_r2) ++ wsX20)
def wsX2_read : List Cond := .code yX2_read cX2_read 3 (some .long) :: ([.fieldLink RX2 9 "PuppetBar" "lengths" "[J", .fieldLink RX2 13 "PuppetBar" "pulls" "[I", .fieldLink RX2 17 "PuppetBar" "knots" "[I", .fieldLink RX2 20 "PuppetBar" "twists" "[J", .fieldLink RX2 23 "PuppetBar" "lows" "[J", .fieldLink RX2 26 "PuppetBar" "highs" "[J"] ++ wsX20)
def wsX2_get : List Cond := .code yX2_get cX2_get 3 (some .long) :: ([.fieldLink RX2 54 "PuppetBar" "refusal" "I", .methodLink RX2 75 yX2_refusalOfPart, .instanceMethod yX2_refusalOfPart, .selects RX2 yX2_refusalOfPart yX2_refusalOfPart, .initialized RX2, .code yX2_refusalOfPart cX2_refusalOfPart 3 (some .int), .methodLink RX2 83 yX2_refusalOfThread, .instanceMethod yX2_refusalOfThread, .selects RX2 yX2_refusalOfThread yX2_refusalOfThread, .code yX2_refusalOfThread cX2_refusalOfThread 2 (some .int), .fieldLink RX2 29 "PuppetBar" "isCut" "[Z", .methodLink RX2 79 yX2_read, .instanceMethod yX2_read, .selects RX2 yX2_read yX2_read, .code yX2_read cX2_read 3 (some .long), .fieldLink RX2 9 "PuppetBar" "lengths" "[J", .fieldLink RX2 13 "PuppetBar" "pulls" "[I", .fieldLink RX2 17 "PuppetBar" "knots" "[I", .fieldLink RX2 20 "PuppetBar" "twists" "[J", .fieldLink RX2 23 "PuppetBar" "lows" "[J", .fieldLink RX2 26 "PuppetBar" "highs" "[J"] ++ wsX20)
def wsX2_refused : List Cond := .code yX2_refused cX2_refused 1 (some .int) :: ([.fieldLink RX2 54 "PuppetBar" "refusal" "I"] ++ wsX20)
def wsX2_cut : List Cond := .code yX2_cut cX2_cut 2 (some .int) :: ([.fieldLink RX2 54 "PuppetBar" "refusal" "I", .fieldLink RX2 29 "PuppetBar" "isCut" "[Z", .methodLink RX2 83 yX2_refusalOfThread, .instanceMethod yX2_refusalOfThread, .selects RX2 yX2_refusalOfThread yX2_refusalOfThread, .initialized RX2, .code yX2_refusalOfThread cX2_refusalOfThread 2 (some .int)] ++ wsX20)
def wsX2_refusalOfStringing : List Cond := .code yX2_refusalOfStringing cX2_refusalOfStringing 3 (some .int) :: ([.methodLink RX2 83 yX2_refusalOfThread, .instanceMethod yX2_refusalOfThread, .selects RX2 yX2_refusalOfThread yX2_refusalOfThread, .initialized RX2, .code yX2_refusalOfThread cX2_refusalOfThread 2 (some .int), .fieldLink RX2 29 "PuppetBar" "isCut" "[Z"] ++ wsX20)
def wsX2_string : List Cond := .code yX2_string cX2_string 2 (some .int) :: ([.fieldLink RX2 54 "PuppetBar" "refusal" "I", .methodLink RX2 87 yX2_refusalOfStringing, .instanceMethod yX2_refusalOfStringing, .selects RX2 yX2_refusalOfStringing yX2_refusalOfStringing, .initialized RX2, .code yX2_refusalOfStringing cX2_refusalOfStringing 3 (some .int), .methodLink RX2 83 yX2_refusalOfThread, .instanceMethod yX2_refusalOfThread, .selects RX2 yX2_refusalOfThread yX2_refusalOfThread, .code yX2_refusalOfThread cX2_refusalOfThread 2 (some .int), .fieldLink RX2 29 "PuppetBar" "isCut" "[Z", .methodLink RX2 63 yX2_stringAnew, .instanceMethod yX2_stringAnew, .selects RX2 yX2_stringAnew yX2_stringAnew, .code yX2_stringAnew cX2_stringAnew 2 none, .fieldLink RX2 9 "PuppetBar" "lengths" "[J", .fieldLink RX2 13 "PuppetBar" "pulls" "[I", .fieldLink RX2 17 "PuppetBar" "knots" "[I", .fieldLink RX2 20 "PuppetBar" "twists" "[J", .fieldLink RX2 23 "PuppetBar" "lows" "[J", .constantLong RX2 143 (-4503599627370496), .fieldLink RX2 26 "PuppetBar" "highs" "[J", .constantLong RX2 133 (9218868437227405312)] ++ wsX20)
def wsX2_wantsOther : List Cond := .code yX2_wantsOther cX2_wantsOther 1 (some .boolean) :: ([])
def wsX2_refusalOfMove : List Cond := .code yX2_refusalOfMove cX2_refusalOfMove 6 (some .int) :: ([.methodLink RX2 83 yX2_refusalOfThread, .instanceMethod yX2_refusalOfThread, .selects RX2 yX2_refusalOfThread yX2_refusalOfThread, .initialized RX2, .code yX2_refusalOfThread cX2_refusalOfThread 2 (some .int), .fieldLink RX2 29 "PuppetBar" "isCut" "[Z", .methodLink RX2 139 yX2_wantsOther, .static yX2_wantsOther, .code yX2_wantsOther cX2_wantsOther 1 (some .boolean)] ++ wsX20)
def wsX2_clearChanges : List Cond := .code yX2_clearChanges cX2_clearChanges 2 none :: ([.fieldLink RX2 57 "PuppetBar" "changes" "[I"] ++ wsX20)
def wsX2_changeLength : List Cond := .code yX2_changeLength cX2_changeLength 4 none :: ([.fieldLink RX2 9 "PuppetBar" "lengths" "[J", .fieldLink RX2 57 "PuppetBar" "changes" "[I"] ++ wsX20)
def wsX2_changePull : List Cond := .code yX2_changePull cX2_changePull 3 none :: ([.fieldLink RX2 13 "PuppetBar" "pulls" "[I", .fieldLink RX2 57 "PuppetBar" "changes" "[I"] ++ wsX20)
def wsX2_changeKnots : List Cond := .code yX2_changeKnots cX2_changeKnots 3 none :: ([.fieldLink RX2 17 "PuppetBar" "knots" "[I", .fieldLink RX2 57 "PuppetBar" "changes" "[I"] ++ wsX20)
def wsX2_changeTwist : List Cond := .code yX2_changeTwist cX2_changeTwist 4 none :: ([.fieldLink RX2 20 "PuppetBar" "twists" "[J", .fieldLink RX2 57 "PuppetBar" "changes" "[I"] ++ wsX20)
def wsX2_flip_r1 : List Cond := [Cond.fieldLink RX2 9 "PuppetBar" "lengths" "[J", Cond.fieldLink RX2 13 "PuppetBar" "pulls" "[I", Cond.fieldLink RX2 17 "PuppetBar" "knots" "[I", Cond.methodLink RX2 199 Lib.Math.abs.name, Cond.static Lib.Math.abs.name, Cond.initialized "java/lang/Math", Cond.code Lib.Math.abs.name Lib.Math.abs.code 1 (some .int), Cond.fieldLink RX2 20 "PuppetBar" "twists" "[J", Cond.methodLink RX2 207 Lib.MathLoose.abs_long.x, Cond.static Lib.MathLoose.abs_long.x, Cond.code Lib.MathLoose.abs_long.x Lib.MathLoose.abs_long.code 2 (some .long), Cond.methodLink RX2 127 yX1_amount, Cond.static yX1_amount, Cond.initialized RX1, Cond.code yX1_amount cX1_amount 2 (some .long), Cond.constantLong RX1 9 (9223372036854775807), Cond.methodLink RX2 192 yX2_changeLength, Cond.instanceMethod yX2_changeLength, Cond.selects RX2 yX2_changeLength yX2_changeLength, Cond.initialized RX2, Cond.code yX2_changeLength cX2_changeLength 4 none, Cond.fieldLink RX2 57 "PuppetBar" "changes" "[I", Cond.methodLink RX2 135 yX1_shortAmount, Cond.static yX1_shortAmount]
def wsX2_flip_r2 : List Cond := [Cond.code yX1_shortAmount cX1_shortAmount 1 (some .int), Cond.constant RX1 11 (2147483647), Cond.methodLink RX2 196 yX2_changePull, Cond.instanceMethod yX2_changePull, Cond.selects RX2 yX2_changePull yX2_changePull, Cond.code yX2_changePull cX2_changePull 3 none, Cond.methodLink RX2 204 yX2_changeKnots, Cond.instanceMethod yX2_changeKnots, Cond.selects RX2 yX2_changeKnots yX2_changeKnots, Cond.code yX2_changeKnots cX2_changeKnots 3 none, Cond.methodLink RX2 209 yX2_changeTwist, Cond.instanceMethod yX2_changeTwist, Cond.selects RX2 yX2_changeTwist yX2_changeTwist, Cond.code yX2_changeTwist cX2_changeTwist 4 none]
def wsX2_flip : List Cond := .code yX2_flip cX2_flip 2 none :: ((wsX2_flip_r1 ++ wsX2_flip_r2) ++ wsX20)
def wsX2_stretch_r1 : List Cond := [Cond.fieldLink RX2 9 "PuppetBar" "lengths" "[J", Cond.fieldLink RX2 13 "PuppetBar" "pulls" "[I", Cond.fieldLink RX2 17 "PuppetBar" "knots" "[I", Cond.methodLink RX2 219 Lib.Math.max.name, Cond.static Lib.Math.max.name, Cond.initialized "java/lang/Math", Cond.code Lib.Math.max.name Lib.Math.max.code 2 (some .int), Cond.fieldLink RX2 20 "PuppetBar" "twists" "[J", Cond.methodLink RX2 222 Lib.MathLoose.max_long.x, Cond.static Lib.MathLoose.max_long.x, Cond.code Lib.MathLoose.max_long.x Lib.MathLoose.max_long.code 4 (some .long), Cond.methodLink RX2 212 yX1_greater, Cond.static yX1_greater, Cond.initialized RX1, Cond.code yX1_greater cX1_greater 4 (some .long), Cond.methodLink RX1 15 yX1_rank, Cond.static yX1_rank, Cond.code yX1_rank cX1_rank 2 (some .long), Cond.constantLong RX1 9 (9223372036854775807), Cond.methodLink RX2 192 yX2_changeLength, Cond.instanceMethod yX2_changeLength, Cond.selects RX2 yX2_changeLength yX2_changeLength, Cond.initialized RX2, Cond.code yX2_changeLength cX2_changeLength 4 none]
def wsX2_stretch_r2 : List Cond := [Cond.fieldLink RX2 57 "PuppetBar" "changes" "[I", Cond.methodLink RX2 216 yX1_shortGreater, Cond.static yX1_shortGreater, Cond.code yX1_shortGreater cX1_shortGreater 2 (some .int), Cond.methodLink RX1 19 yX1_shortRank, Cond.static yX1_shortRank, Cond.code yX1_shortRank cX1_shortRank 1 (some .int), Cond.constant RX1 11 (2147483647), Cond.methodLink RX2 196 yX2_changePull, Cond.instanceMethod yX2_changePull, Cond.selects RX2 yX2_changePull yX2_changePull, Cond.code yX2_changePull cX2_changePull 3 none, Cond.methodLink RX2 204 yX2_changeKnots, Cond.instanceMethod yX2_changeKnots, Cond.selects RX2 yX2_changeKnots yX2_changeKnots, Cond.code yX2_changeKnots cX2_changeKnots 3 none, Cond.methodLink RX2 209 yX2_changeTwist, Cond.instanceMethod yX2_changeTwist, Cond.selects RX2 yX2_changeTwist yX2_changeTwist, Cond.code yX2_changeTwist cX2_changeTwist 4 none]
def wsX2_stretch : List Cond := .code yX2_stretch cX2_stretch 3 none :: ((wsX2_stretch_r1 ++ wsX2_stretch_r2) ++ wsX20)
def wsX2_ease_r1 : List Cond := [Cond.fieldLink RX2 9 "PuppetBar" "lengths" "[J", Cond.fieldLink RX2 13 "PuppetBar" "pulls" "[I", Cond.fieldLink RX2 17 "PuppetBar" "knots" "[I", Cond.methodLink RX2 230 Lib.Math.min.name, Cond.static Lib.Math.min.name, Cond.initialized "java/lang/Math", Cond.code Lib.Math.min.name Lib.Math.min.code 2 (some .int), Cond.fieldLink RX2 20 "PuppetBar" "twists" "[J", Cond.methodLink RX2 233 Lib.MathLoose.min_long.x, Cond.static Lib.MathLoose.min_long.x, Cond.code Lib.MathLoose.min_long.x Lib.MathLoose.min_long.code 4 (some .long), Cond.methodLink RX2 224 yX1_lesser, Cond.static yX1_lesser, Cond.initialized RX1, Cond.code yX1_lesser cX1_lesser 4 (some .long), Cond.methodLink RX1 15 yX1_rank, Cond.static yX1_rank, Cond.code yX1_rank cX1_rank 2 (some .long), Cond.constantLong RX1 9 (9223372036854775807), Cond.methodLink RX2 192 yX2_changeLength, Cond.instanceMethod yX2_changeLength, Cond.selects RX2 yX2_changeLength yX2_changeLength, Cond.initialized RX2, Cond.code yX2_changeLength cX2_changeLength 4 none]
def wsX2_ease_r2 : List Cond := [Cond.fieldLink RX2 57 "PuppetBar" "changes" "[I", Cond.methodLink RX2 227 yX1_shortLesser, Cond.static yX1_shortLesser, Cond.code yX1_shortLesser cX1_shortLesser 2 (some .int), Cond.methodLink RX1 19 yX1_shortRank, Cond.static yX1_shortRank, Cond.code yX1_shortRank cX1_shortRank 1 (some .int), Cond.constant RX1 11 (2147483647), Cond.methodLink RX2 196 yX2_changePull, Cond.instanceMethod yX2_changePull, Cond.selects RX2 yX2_changePull yX2_changePull, Cond.code yX2_changePull cX2_changePull 3 none, Cond.methodLink RX2 204 yX2_changeKnots, Cond.instanceMethod yX2_changeKnots, Cond.selects RX2 yX2_changeKnots yX2_changeKnots, Cond.code yX2_changeKnots cX2_changeKnots 3 none, Cond.methodLink RX2 209 yX2_changeTwist, Cond.instanceMethod yX2_changeTwist, Cond.selects RX2 yX2_changeTwist yX2_changeTwist, Cond.code yX2_changeTwist cX2_changeTwist 4 none]
def wsX2_ease : List Cond := .code yX2_ease cX2_ease 3 none :: ((wsX2_ease_r1 ++ wsX2_ease_r2) ++ wsX20)
def wsX2_changeAmounts : List Cond := .code yX2_changeAmounts cX2_changeAmounts 6 none :: ([.fieldLink RX2 9 "PuppetBar" "lengths" "[J", .fieldLink RX2 13 "PuppetBar" "pulls" "[I", .methodLink RX2 251 yX1_withSign, .static yX1_withSign, .initialized RX1, .code yX1_withSign cX1_withSign 4 (some .long), .constantLong RX1 12 (-9223372036854775808), .methodLink RX2 192 yX2_changeLength, .instanceMethod yX2_changeLength, .selects RX2 yX2_changeLength yX2_changeLength, .initialized RX2, .code yX2_changeLength cX2_changeLength 4 none, .fieldLink RX2 57 "PuppetBar" "changes" "[I", .methodLink RX2 255 yX1_shortWithSign, .static yX1_shortWithSign, .code yX1_shortWithSign cX1_shortWithSign 2 (some .int), .constant RX1 14 (-2147483648), .methodLink RX2 196 yX2_changePull, .instanceMethod yX2_changePull, .selects RX2 yX2_changePull yX2_changePull, .code yX2_changePull cX2_changePull 3 none] ++ wsX20)
def wsX2_letToWhole_r1 : List Cond := [Cond.fieldLink RX2 9 "PuppetBar" "lengths" "[J", Cond.fieldLink RX2 13 "PuppetBar" "pulls" "[I", Cond.methodLink RX2 127 yX1_amount, Cond.static yX1_amount, Cond.initialized RX1, Cond.code yX1_amount cX1_amount 2 (some .long), Cond.constantLong RX1 9 (9223372036854775807), Cond.methodLink RX2 135 yX1_shortAmount, Cond.static yX1_shortAmount, Cond.code yX1_shortAmount cX1_shortAmount 1 (some .int), Cond.constant RX1 11 (2147483647), Cond.methodLink RX2 235 yX1_wholeAbove, Cond.static yX1_wholeAbove, Cond.code yX1_wholeAbove cX1_wholeAbove 6 (some .long), Cond.methodLink RX1 27 yX1_wholeBelow, Cond.static yX1_wholeBelow, Cond.code yX1_wholeBelow cX1_wholeBelow 5 (some .long), Cond.methodLink RX1 23 yX1_power, Cond.static yX1_power, Cond.code yX1_power cX1_power 4 (some .int), Cond.methodLink RX1 31 yX1_nextWhole, Cond.static yX1_nextWhole, Cond.code yX1_nextWhole cX1_nextWhole 4 (some .long), Cond.methodLink RX2 239 yX1_wholeBelow]
def wsX2_letToWhole_r2 : List Cond := [Cond.methodLink RX2 242 yX2_changeAmounts, Cond.instanceMethod yX2_changeAmounts, Cond.selects RX2 yX2_changeAmounts yX2_changeAmounts, Cond.initialized RX2, Cond.code yX2_changeAmounts cX2_changeAmounts 6 none, Cond.methodLink RX2 251 yX1_withSign, Cond.static yX1_withSign, Cond.code yX1_withSign cX1_withSign 4 (some .long), Cond.constantLong RX1 12 (-9223372036854775808), Cond.methodLink RX2 192 yX2_changeLength, Cond.instanceMethod yX2_changeLength, Cond.selects RX2 yX2_changeLength yX2_changeLength, Cond.code yX2_changeLength cX2_changeLength 4 none, Cond.fieldLink RX2 57 "PuppetBar" "changes" "[I", Cond.methodLink RX2 255 yX1_shortWithSign, Cond.static yX1_shortWithSign, Cond.code yX1_shortWithSign cX1_shortWithSign 2 (some .int), Cond.constant RX1 14 (-2147483648), Cond.methodLink RX2 196 yX2_changePull, Cond.instanceMethod yX2_changePull, Cond.selects RX2 yX2_changePull yX2_changePull, Cond.code yX2_changePull cX2_changePull 3 none]
def wsX2_letToWhole : List Cond := .code yX2_letToWhole cX2_letToWhole 8 none :: ((wsX2_letToWhole_r1 ++ wsX2_letToWhole_r2) ++ wsX20)
def wsX2_letNear_r1 : List Cond := [Cond.fieldLink RX2 9 "PuppetBar" "lengths" "[J", Cond.fieldLink RX2 13 "PuppetBar" "pulls" "[I", Cond.methodLink RX2 127 yX1_amount, Cond.static yX1_amount, Cond.initialized RX1, Cond.code yX1_amount cX1_amount 2 (some .long), Cond.constantLong RX1 9 (9223372036854775807), Cond.methodLink RX2 246 yX1_wholeNear, Cond.static yX1_wholeNear, Cond.code yX1_wholeNear cX1_wholeNear 13 (some .long), Cond.methodLink RX1 27 yX1_wholeBelow, Cond.static yX1_wholeBelow, Cond.code yX1_wholeBelow cX1_wholeBelow 5 (some .long), Cond.methodLink RX1 23 yX1_power, Cond.static yX1_power, Cond.code yX1_power cX1_power 4 (some .int), Cond.methodLink RX1 31 yX1_nextWhole, Cond.static yX1_nextWhole, Cond.code yX1_nextWhole cX1_nextWhole 4 (some .long), Cond.methodLink RX2 135 yX1_shortAmount, Cond.static yX1_shortAmount, Cond.code yX1_shortAmount cX1_shortAmount 1 (some .int), Cond.constant RX1 11 (2147483647), Cond.methodLink RX2 242 yX2_changeAmounts]
def wsX2_letNear_r2 : List Cond := [Cond.instanceMethod yX2_changeAmounts, Cond.selects RX2 yX2_changeAmounts yX2_changeAmounts, Cond.initialized RX2, Cond.code yX2_changeAmounts cX2_changeAmounts 6 none, Cond.methodLink RX2 251 yX1_withSign, Cond.static yX1_withSign, Cond.code yX1_withSign cX1_withSign 4 (some .long), Cond.constantLong RX1 12 (-9223372036854775808), Cond.methodLink RX2 192 yX2_changeLength, Cond.instanceMethod yX2_changeLength, Cond.selects RX2 yX2_changeLength yX2_changeLength, Cond.code yX2_changeLength cX2_changeLength 4 none, Cond.fieldLink RX2 57 "PuppetBar" "changes" "[I", Cond.methodLink RX2 255 yX1_shortWithSign, Cond.static yX1_shortWithSign, Cond.code yX1_shortWithSign cX1_shortWithSign 2 (some .int), Cond.constant RX1 14 (-2147483648), Cond.methodLink RX2 196 yX2_changePull, Cond.instanceMethod yX2_changePull, Cond.selects RX2 yX2_changePull yX2_changePull, Cond.code yX2_changePull cX2_changePull 3 none]
def wsX2_letNear : List Cond := .code yX2_letNear cX2_letNear 2 none :: ((wsX2_letNear_r1 ++ wsX2_letNear_r2) ++ wsX20)
def wsX2_lean : List Cond := .code yX2_lean cX2_lean 2 none :: ([.fieldLink RX2 9 "PuppetBar" "lengths" "[J", .fieldLink RX2 33 "PuppetBar" "tilt" "J", .constantLong RX2 249 (4607182418800017408), .fieldLink RX2 13 "PuppetBar" "pulls" "[I", .fieldLink RX2 37 "PuppetBar" "weight" "I", .constant RX2 254 (1065353216), .methodLink RX2 127 yX1_amount, .static yX1_amount, .initialized RX1, .code yX1_amount cX1_amount 2 (some .long), .constantLong RX1 9 (9223372036854775807), .methodLink RX2 251 yX1_withSign, .static yX1_withSign, .code yX1_withSign cX1_withSign 4 (some .long), .constantLong RX1 12 (-9223372036854775808), .methodLink RX2 135 yX1_shortAmount, .static yX1_shortAmount, .code yX1_shortAmount cX1_shortAmount 1 (some .int), .constant RX1 11 (2147483647), .methodLink RX2 255 yX1_shortWithSign, .static yX1_shortWithSign, .code yX1_shortWithSign cX1_shortWithSign 2 (some .int), .constant RX1 14 (-2147483648)] ++ wsX20)
def wsX2_mirror_r1 : List Cond := [Cond.fieldLink RX2 9 "PuppetBar" "lengths" "[J", Cond.fieldLink RX2 13 "PuppetBar" "pulls" "[I", Cond.methodLink RX2 127 yX1_amount, Cond.static yX1_amount, Cond.initialized RX1, Cond.code yX1_amount cX1_amount 2 (some .long), Cond.constantLong RX1 9 (9223372036854775807), Cond.methodLink RX2 251 yX1_withSign, Cond.static yX1_withSign, Cond.code yX1_withSign cX1_withSign 4 (some .long), Cond.constantLong RX1 12 (-9223372036854775808), Cond.methodLink RX2 192 yX2_changeLength, Cond.instanceMethod yX2_changeLength, Cond.selects RX2 yX2_changeLength yX2_changeLength, Cond.initialized RX2, Cond.code yX2_changeLength cX2_changeLength 4 none, Cond.fieldLink RX2 57 "PuppetBar" "changes" "[I", Cond.methodLink RX2 135 yX1_shortAmount, Cond.static yX1_shortAmount, Cond.code yX1_shortAmount cX1_shortAmount 1 (some .int), Cond.constant RX1 11 (2147483647), Cond.methodLink RX2 255 yX1_shortWithSign, Cond.static yX1_shortWithSign, Cond.code yX1_shortWithSign cX1_shortWithSign 2 (some .int)]
def wsX2_mirror_r2 : List Cond := [Cond.constant RX1 14 (-2147483648), Cond.methodLink RX2 196 yX2_changePull, Cond.instanceMethod yX2_changePull, Cond.selects RX2 yX2_changePull yX2_changePull, Cond.code yX2_changePull cX2_changePull 3 none]
def wsX2_mirror : List Cond := .code yX2_mirror cX2_mirror 3 none :: ((wsX2_mirror_r1 ++ wsX2_mirror_r2) ++ wsX20)
def wsX2_hold : List Cond := .code yX2_hold cX2_hold 2 none :: ([.fieldLink RX2 9 "PuppetBar" "lengths" "[J", .fieldLink RX2 23 "PuppetBar" "lows" "[J", .fieldLink RX2 26 "PuppetBar" "highs" "[J", .methodLink RX2 212 yX1_greater, .static yX1_greater, .initialized RX1, .code yX1_greater cX1_greater 4 (some .long), .methodLink RX1 15 yX1_rank, .static yX1_rank, .code yX1_rank cX1_rank 2 (some .long), .constantLong RX1 9 (9223372036854775807), .methodLink RX2 224 yX1_lesser, .static yX1_lesser, .code yX1_lesser cX1_lesser 4 (some .long), .methodLink RX2 192 yX2_changeLength, .instanceMethod yX2_changeLength, .selects RX2 yX2_changeLength yX2_changeLength, .initialized RX2, .code yX2_changeLength cX2_changeLength 4 none, .fieldLink RX2 57 "PuppetBar" "changes" "[I"] ++ wsX20)
def wsX2_placeStops : List Cond := .code yX2_placeStops cX2_placeStops 3 none :: ([.fieldLink RX2 23 "PuppetBar" "lows" "[J", .fieldLink RX2 9 "PuppetBar" "lengths" "[J", .fieldLink RX2 26 "PuppetBar" "highs" "[J", .methodLink RX2 224 yX1_lesser, .static yX1_lesser, .initialized RX1, .code yX1_lesser cX1_lesser 4 (some .long), .methodLink RX1 15 yX1_rank, .static yX1_rank, .code yX1_rank cX1_rank 2 (some .long), .constantLong RX1 9 (9223372036854775807), .methodLink RX2 212 yX1_greater, .static yX1_greater, .code yX1_greater cX1_greater 4 (some .long)] ++ wsX20)
def wsX2_gather_r1 : List Cond := [Cond.fieldLink RX2 33 "PuppetBar" "tilt" "J", Cond.fieldLink RX2 9 "PuppetBar" "lengths" "[J", Cond.fieldLink RX2 37 "PuppetBar" "weight" "I", Cond.fieldLink RX2 13 "PuppetBar" "pulls" "[I", Cond.fieldLink RX2 41 "PuppetBar" "count" "I", Cond.fieldLink RX2 17 "PuppetBar" "knots" "[I", Cond.methodLink RX2 199 Lib.Math.abs.name, Cond.static Lib.Math.abs.name, Cond.initialized "java/lang/Math", Cond.code Lib.Math.abs.name Lib.Math.abs.code 1 (some .int), Cond.methodLink RX2 219 Lib.Math.max.name, Cond.static Lib.Math.max.name, Cond.code Lib.Math.max.name Lib.Math.max.code 2 (some .int), Cond.fieldLink RX2 44 "PuppetBar" "turn" "J", Cond.fieldLink RX2 20 "PuppetBar" "twists" "[J", Cond.methodLink RX2 207 Lib.MathLoose.abs_long.x, Cond.static Lib.MathLoose.abs_long.x, Cond.code Lib.MathLoose.abs_long.x Lib.MathLoose.abs_long.code 2 (some .long), Cond.methodLink RX2 233 Lib.MathLoose.min_long.x, Cond.static Lib.MathLoose.min_long.x, Cond.code Lib.MathLoose.min_long.x Lib.MathLoose.min_long.code 4 (some .long), Cond.methodLink RX2 127 yX1_amount, Cond.static yX1_amount, Cond.initialized RX1]
def wsX2_gather_r2 : List Cond := [Cond.code yX1_amount cX1_amount 2 (some .long), Cond.constantLong RX1 9 (9223372036854775807), Cond.methodLink RX2 212 yX1_greater, Cond.static yX1_greater, Cond.code yX1_greater cX1_greater 4 (some .long), Cond.methodLink RX1 15 yX1_rank, Cond.static yX1_rank, Cond.code yX1_rank cX1_rank 2 (some .long), Cond.methodLink RX2 135 yX1_shortAmount, Cond.static yX1_shortAmount, Cond.code yX1_shortAmount cX1_shortAmount 1 (some .int), Cond.constant RX1 11 (2147483647), Cond.methodLink RX2 227 yX1_shortLesser, Cond.static yX1_shortLesser, Cond.code yX1_shortLesser cX1_shortLesser 2 (some .int), Cond.methodLink RX1 19 yX1_shortRank, Cond.static yX1_shortRank, Cond.code yX1_shortRank cX1_shortRank 1 (some .int)]
def wsX2_gather : List Cond := .code yX2_gather cX2_gather 2 none :: ((wsX2_gather_r1 ++ wsX2_gather_r2) ++ wsX20)
def wsX2_trade : List Cond := .code yX2_trade cX2_trade 13 none :: ([.fieldLink RX2 9 "PuppetBar" "lengths" "[J", .fieldLink RX2 13 "PuppetBar" "pulls" "[I", .fieldLink RX2 17 "PuppetBar" "knots" "[I", .fieldLink RX2 20 "PuppetBar" "twists" "[J", .fieldLink RX2 23 "PuppetBar" "lows" "[J", .fieldLink RX2 26 "PuppetBar" "highs" "[J", .methodLink RX2 192 yX2_changeLength, .instanceMethod yX2_changeLength, .selects RX2 yX2_changeLength yX2_changeLength, .initialized RX2, .code yX2_changeLength cX2_changeLength 4 none, .fieldLink RX2 57 "PuppetBar" "changes" "[I", .methodLink RX2 196 yX2_changePull, .instanceMethod yX2_changePull, .selects RX2 yX2_changePull yX2_changePull, .code yX2_changePull cX2_changePull 3 none, .methodLink RX2 204 yX2_changeKnots, .instanceMethod yX2_changeKnots, .selects RX2 yX2_changeKnots yX2_changeKnots, .code yX2_changeKnots cX2_changeKnots 3 none, .methodLink RX2 209 yX2_changeTwist, .instanceMethod yX2_changeTwist, .selects RX2 yX2_changeTwist yX2_changeTwist, .code yX2_changeTwist cX2_changeTwist 4 none] ++ wsX20)
def wsX2_climb : List Cond := .code yX2_climb cX2_climb 2 none :: ([.fieldLink RX2 9 "PuppetBar" "lengths" "[J", .fieldLink RX2 17 "PuppetBar" "knots" "[I", .fieldLink RX2 13 "PuppetBar" "pulls" "[I", .fieldLink RX2 20 "PuppetBar" "twists" "[J", .methodLink RX2 127 yX1_amount, .static yX1_amount, .initialized RX1, .code yX1_amount cX1_amount 2 (some .long), .constantLong RX1 9 (9223372036854775807), .methodLink RX2 204 yX2_changeKnots, .instanceMethod yX2_changeKnots, .selects RX2 yX2_changeKnots yX2_changeKnots, .initialized RX2, .code yX2_changeKnots cX2_changeKnots 3 none, .fieldLink RX2 57 "PuppetBar" "changes" "[I", .methodLink RX2 135 yX1_shortAmount, .static yX1_shortAmount, .code yX1_shortAmount cX1_shortAmount 1 (some .int), .constant RX1 11 (2147483647), .methodLink RX2 209 yX2_changeTwist, .instanceMethod yX2_changeTwist, .selects RX2 yX2_changeTwist yX2_changeTwist, .code yX2_changeTwist cX2_changeTwist 4 none] ++ wsX20)
def wsX2_halve_r1 : List Cond := [Cond.fieldLink RX2 9 "PuppetBar" "lengths" "[J", Cond.constantLong RX2 133 (9218868437227405312), Cond.fieldLink RX2 13 "PuppetBar" "pulls" "[I", Cond.constantLong RX2 262 (2139095040), Cond.methodLink RX2 127 yX1_amount, Cond.static yX1_amount, Cond.initialized RX1, Cond.code yX1_amount cX1_amount 2 (some .long), Cond.constantLong RX1 9 (9223372036854775807), Cond.methodLink RX2 258 yX1_half, Cond.static yX1_half, Cond.code yX1_half cX1_half 9 (some .long), Cond.constantLong RX1 34 (2), Cond.methodLink RX2 135 yX1_shortAmount, Cond.static yX1_shortAmount, Cond.code yX1_shortAmount cX1_shortAmount 1 (some .int), Cond.constant RX1 11 (2147483647), Cond.methodLink RX2 242 yX2_changeAmounts, Cond.instanceMethod yX2_changeAmounts, Cond.selects RX2 yX2_changeAmounts yX2_changeAmounts, Cond.initialized RX2, Cond.code yX2_changeAmounts cX2_changeAmounts 6 none, Cond.methodLink RX2 251 yX1_withSign, Cond.static yX1_withSign]
def wsX2_halve_r2 : List Cond := [Cond.code yX1_withSign cX1_withSign 4 (some .long), Cond.constantLong RX1 12 (-9223372036854775808), Cond.methodLink RX2 192 yX2_changeLength, Cond.instanceMethod yX2_changeLength, Cond.selects RX2 yX2_changeLength yX2_changeLength, Cond.code yX2_changeLength cX2_changeLength 4 none, Cond.fieldLink RX2 57 "PuppetBar" "changes" "[I", Cond.methodLink RX2 255 yX1_shortWithSign, Cond.static yX1_shortWithSign, Cond.code yX1_shortWithSign cX1_shortWithSign 2 (some .int), Cond.constant RX1 14 (-2147483648), Cond.methodLink RX2 196 yX2_changePull, Cond.instanceMethod yX2_changePull, Cond.selects RX2 yX2_changePull yX2_changePull, Cond.code yX2_changePull cX2_changePull 3 none]
def wsX2_halve : List Cond := .code yX2_halve cX2_halve 2 none :: ((wsX2_halve_r1 ++ wsX2_halve_r2) ++ wsX20)
def wsX2_makeTwice_r1 : List Cond := [Cond.fieldLink RX2 9 "PuppetBar" "lengths" "[J", Cond.constantLong RX2 133 (9218868437227405312), Cond.fieldLink RX2 13 "PuppetBar" "pulls" "[I", Cond.constantLong RX2 262 (2139095040), Cond.methodLink RX2 127 yX1_amount, Cond.static yX1_amount, Cond.initialized RX1, Cond.code yX1_amount cX1_amount 2 (some .long), Cond.constantLong RX1 9 (9223372036854775807), Cond.methodLink RX2 264 yX1_twice, Cond.static yX1_twice, Cond.code yX1_twice cX1_twice 9 (some .long), Cond.methodLink RX2 135 yX1_shortAmount, Cond.static yX1_shortAmount, Cond.code yX1_shortAmount cX1_shortAmount 1 (some .int), Cond.constant RX1 11 (2147483647), Cond.methodLink RX2 242 yX2_changeAmounts, Cond.instanceMethod yX2_changeAmounts, Cond.selects RX2 yX2_changeAmounts yX2_changeAmounts, Cond.initialized RX2, Cond.code yX2_changeAmounts cX2_changeAmounts 6 none, Cond.methodLink RX2 251 yX1_withSign, Cond.static yX1_withSign, Cond.code yX1_withSign cX1_withSign 4 (some .long)]
def wsX2_makeTwice_r2 : List Cond := [Cond.constantLong RX1 12 (-9223372036854775808), Cond.methodLink RX2 192 yX2_changeLength, Cond.instanceMethod yX2_changeLength, Cond.selects RX2 yX2_changeLength yX2_changeLength, Cond.code yX2_changeLength cX2_changeLength 4 none, Cond.fieldLink RX2 57 "PuppetBar" "changes" "[I", Cond.methodLink RX2 255 yX1_shortWithSign, Cond.static yX1_shortWithSign, Cond.code yX1_shortWithSign cX1_shortWithSign 2 (some .int), Cond.constant RX1 14 (-2147483648), Cond.methodLink RX2 196 yX2_changePull, Cond.instanceMethod yX2_changePull, Cond.selects RX2 yX2_changePull yX2_changePull, Cond.code yX2_changePull cX2_changePull 3 none]
def wsX2_makeTwice : List Cond := .code yX2_makeTwice cX2_makeTwice 2 none :: ((wsX2_makeTwice_r1 ++ wsX2_makeTwice_r2) ++ wsX20)
def wsX2_give_r1 : List Cond := [Cond.fieldLink RX2 33 "PuppetBar" "tilt" "J", Cond.fieldLink RX2 37 "PuppetBar" "weight" "I", Cond.fieldLink RX2 41 "PuppetBar" "count" "I", Cond.fieldLink RX2 44 "PuppetBar" "turn" "J", Cond.methodLink RX2 192 yX2_changeLength, Cond.instanceMethod yX2_changeLength, Cond.selects RX2 yX2_changeLength yX2_changeLength, Cond.initialized RX2, Cond.code yX2_changeLength cX2_changeLength 4 none, Cond.fieldLink RX2 9 "PuppetBar" "lengths" "[J", Cond.fieldLink RX2 57 "PuppetBar" "changes" "[I", Cond.methodLink RX2 196 yX2_changePull, Cond.instanceMethod yX2_changePull, Cond.selects RX2 yX2_changePull yX2_changePull, Cond.code yX2_changePull cX2_changePull 3 none, Cond.fieldLink RX2 13 "PuppetBar" "pulls" "[I", Cond.methodLink RX2 204 yX2_changeKnots, Cond.instanceMethod yX2_changeKnots, Cond.selects RX2 yX2_changeKnots yX2_changeKnots, Cond.code yX2_changeKnots cX2_changeKnots 3 none, Cond.fieldLink RX2 17 "PuppetBar" "knots" "[I", Cond.methodLink RX2 209 yX2_changeTwist, Cond.instanceMethod yX2_changeTwist, Cond.selects RX2 yX2_changeTwist yX2_changeTwist]
def wsX2_give_r2 : List Cond := [Cond.code yX2_changeTwist cX2_changeTwist 4 none, Cond.fieldLink RX2 20 "PuppetBar" "twists" "[J"]
def wsX2_give : List Cond := .code yX2_give cX2_give 2 none :: ((wsX2_give_r1 ++ wsX2_give_r2) ++ wsX20)
def wsX2_perform_r1 : List Cond := [Cond.fieldLink RX2 9 "PuppetBar" "lengths" "[J", Cond.fieldLink RX2 13 "PuppetBar" "pulls" "[I", Cond.methodLink RX2 145 yX2_flip, Cond.instanceMethod yX2_flip, Cond.selects RX2 yX2_flip yX2_flip, Cond.initialized RX2, Cond.code yX2_flip cX2_flip 2 none, Cond.fieldLink RX2 17 "PuppetBar" "knots" "[I", Cond.methodLink RX2 199 Lib.Math.abs.name, Cond.static Lib.Math.abs.name, Cond.initialized "java/lang/Math", Cond.code Lib.Math.abs.name Lib.Math.abs.code 1 (some .int), Cond.fieldLink RX2 20 "PuppetBar" "twists" "[J", Cond.methodLink RX2 207 Lib.MathLoose.abs_long.x, Cond.static Lib.MathLoose.abs_long.x, Cond.code Lib.MathLoose.abs_long.x Lib.MathLoose.abs_long.code 2 (some .long), Cond.methodLink RX2 127 yX1_amount, Cond.static yX1_amount, Cond.initialized RX1, Cond.code yX1_amount cX1_amount 2 (some .long), Cond.constantLong RX1 9 (9223372036854775807), Cond.methodLink RX2 192 yX2_changeLength, Cond.instanceMethod yX2_changeLength, Cond.selects RX2 yX2_changeLength yX2_changeLength]
def wsX2_perform_r2 : List Cond := [Cond.code yX2_changeLength cX2_changeLength 4 none, Cond.fieldLink RX2 57 "PuppetBar" "changes" "[I", Cond.methodLink RX2 135 yX1_shortAmount, Cond.static yX1_shortAmount, Cond.code yX1_shortAmount cX1_shortAmount 1 (some .int), Cond.constant RX1 11 (2147483647), Cond.methodLink RX2 196 yX2_changePull, Cond.instanceMethod yX2_changePull, Cond.selects RX2 yX2_changePull yX2_changePull, Cond.code yX2_changePull cX2_changePull 3 none, Cond.methodLink RX2 204 yX2_changeKnots, Cond.instanceMethod yX2_changeKnots, Cond.selects RX2 yX2_changeKnots yX2_changeKnots, Cond.code yX2_changeKnots cX2_changeKnots 3 none, Cond.methodLink RX2 209 yX2_changeTwist, Cond.instanceMethod yX2_changeTwist, Cond.selects RX2 yX2_changeTwist yX2_changeTwist, Cond.code yX2_changeTwist cX2_changeTwist 4 none, Cond.methodLink RX2 148 yX2_stretch, Cond.instanceMethod yX2_stretch, Cond.selects RX2 yX2_stretch yX2_stretch, Cond.code yX2_stretch cX2_stretch 3 none, Cond.methodLink RX2 219 Lib.Math.max.name, Cond.static Lib.Math.max.name]
def wsX2_perform_r3 : List Cond := [Cond.code Lib.Math.max.name Lib.Math.max.code 2 (some .int), Cond.methodLink RX2 222 Lib.MathLoose.max_long.x, Cond.static Lib.MathLoose.max_long.x, Cond.code Lib.MathLoose.max_long.x Lib.MathLoose.max_long.code 4 (some .long), Cond.methodLink RX2 212 yX1_greater, Cond.static yX1_greater, Cond.code yX1_greater cX1_greater 4 (some .long), Cond.methodLink RX1 15 yX1_rank, Cond.static yX1_rank, Cond.code yX1_rank cX1_rank 2 (some .long), Cond.methodLink RX2 216 yX1_shortGreater, Cond.static yX1_shortGreater, Cond.code yX1_shortGreater cX1_shortGreater 2 (some .int), Cond.methodLink RX1 19 yX1_shortRank, Cond.static yX1_shortRank, Cond.code yX1_shortRank cX1_shortRank 1 (some .int), Cond.methodLink RX2 152 yX2_ease, Cond.instanceMethod yX2_ease, Cond.selects RX2 yX2_ease yX2_ease, Cond.code yX2_ease cX2_ease 3 none, Cond.methodLink RX2 230 Lib.Math.min.name, Cond.static Lib.Math.min.name, Cond.code Lib.Math.min.name Lib.Math.min.code 2 (some .int), Cond.methodLink RX2 233 Lib.MathLoose.min_long.x]
def wsX2_perform_r4 : List Cond := [Cond.static Lib.MathLoose.min_long.x, Cond.code Lib.MathLoose.min_long.x Lib.MathLoose.min_long.code 4 (some .long), Cond.methodLink RX2 224 yX1_lesser, Cond.static yX1_lesser, Cond.code yX1_lesser cX1_lesser 4 (some .long), Cond.methodLink RX2 227 yX1_shortLesser, Cond.static yX1_shortLesser, Cond.code yX1_shortLesser cX1_shortLesser 2 (some .int), Cond.methodLink RX2 155 yX2_letToWhole, Cond.instanceMethod yX2_letToWhole, Cond.selects RX2 yX2_letToWhole yX2_letToWhole, Cond.code yX2_letToWhole cX2_letToWhole 8 none, Cond.methodLink RX2 235 yX1_wholeAbove, Cond.static yX1_wholeAbove, Cond.code yX1_wholeAbove cX1_wholeAbove 6 (some .long), Cond.methodLink RX1 27 yX1_wholeBelow, Cond.static yX1_wholeBelow, Cond.code yX1_wholeBelow cX1_wholeBelow 5 (some .long), Cond.methodLink RX1 23 yX1_power, Cond.static yX1_power, Cond.code yX1_power cX1_power 4 (some .int), Cond.methodLink RX1 31 yX1_nextWhole, Cond.static yX1_nextWhole, Cond.code yX1_nextWhole cX1_nextWhole 4 (some .long)]
def wsX2_perform_r5 : List Cond := [Cond.methodLink RX2 239 yX1_wholeBelow, Cond.methodLink RX2 242 yX2_changeAmounts, Cond.instanceMethod yX2_changeAmounts, Cond.selects RX2 yX2_changeAmounts yX2_changeAmounts, Cond.code yX2_changeAmounts cX2_changeAmounts 6 none, Cond.methodLink RX2 251 yX1_withSign, Cond.static yX1_withSign, Cond.code yX1_withSign cX1_withSign 4 (some .long), Cond.constantLong RX1 12 (-9223372036854775808), Cond.methodLink RX2 255 yX1_shortWithSign, Cond.static yX1_shortWithSign, Cond.code yX1_shortWithSign cX1_shortWithSign 2 (some .int), Cond.constant RX1 14 (-2147483648), Cond.methodLink RX2 159 yX2_letNear, Cond.instanceMethod yX2_letNear, Cond.selects RX2 yX2_letNear yX2_letNear, Cond.code yX2_letNear cX2_letNear 2 none, Cond.methodLink RX2 246 yX1_wholeNear, Cond.static yX1_wholeNear, Cond.code yX1_wholeNear cX1_wholeNear 13 (some .long), Cond.methodLink RX2 162 yX2_lean, Cond.instanceMethod yX2_lean, Cond.selects RX2 yX2_lean yX2_lean, Cond.code yX2_lean cX2_lean 2 none]
def wsX2_perform_r6 : List Cond := [Cond.fieldLink RX2 33 "PuppetBar" "tilt" "J", Cond.constantLong RX2 249 (4607182418800017408), Cond.fieldLink RX2 37 "PuppetBar" "weight" "I", Cond.constant RX2 254 (1065353216), Cond.methodLink RX2 165 yX2_mirror, Cond.instanceMethod yX2_mirror, Cond.selects RX2 yX2_mirror yX2_mirror, Cond.code yX2_mirror cX2_mirror 3 none, Cond.methodLink RX2 168 yX2_hold, Cond.instanceMethod yX2_hold, Cond.selects RX2 yX2_hold yX2_hold, Cond.code yX2_hold cX2_hold 2 none, Cond.fieldLink RX2 23 "PuppetBar" "lows" "[J", Cond.fieldLink RX2 26 "PuppetBar" "highs" "[J", Cond.methodLink RX2 171 yX2_placeStops, Cond.instanceMethod yX2_placeStops, Cond.selects RX2 yX2_placeStops yX2_placeStops, Cond.code yX2_placeStops cX2_placeStops 3 none, Cond.methodLink RX2 174 yX2_gather, Cond.instanceMethod yX2_gather, Cond.selects RX2 yX2_gather yX2_gather, Cond.code yX2_gather cX2_gather 2 none, Cond.fieldLink RX2 41 "PuppetBar" "count" "I", Cond.fieldLink RX2 44 "PuppetBar" "turn" "J"]
def wsX2_perform_r7 : List Cond := [Cond.methodLink RX2 177 yX2_trade, Cond.instanceMethod yX2_trade, Cond.selects RX2 yX2_trade yX2_trade, Cond.code yX2_trade cX2_trade 13 none, Cond.methodLink RX2 180 yX2_climb, Cond.instanceMethod yX2_climb, Cond.selects RX2 yX2_climb yX2_climb, Cond.code yX2_climb cX2_climb 2 none, Cond.methodLink RX2 183 yX2_halve, Cond.instanceMethod yX2_halve, Cond.selects RX2 yX2_halve yX2_halve, Cond.code yX2_halve cX2_halve 2 none, Cond.constantLong RX2 133 (9218868437227405312), Cond.constantLong RX2 262 (2139095040), Cond.methodLink RX2 258 yX1_half, Cond.static yX1_half, Cond.code yX1_half cX1_half 9 (some .long), Cond.constantLong RX1 34 (2), Cond.methodLink RX2 186 yX2_makeTwice, Cond.instanceMethod yX2_makeTwice, Cond.selects RX2 yX2_makeTwice yX2_makeTwice, Cond.code yX2_makeTwice cX2_makeTwice 2 none, Cond.methodLink RX2 264 yX1_twice, Cond.static yX1_twice]
def wsX2_perform_r8 : List Cond := [Cond.code yX1_twice cX1_twice 9 (some .long), Cond.methodLink RX2 189 yX2_give, Cond.instanceMethod yX2_give, Cond.selects RX2 yX2_give yX2_give, Cond.code yX2_give cX2_give 2 none]
def wsX2_perform : List Cond := .code yX2_perform cX2_perform 4 none :: ((wsX2_perform_r1 ++ (wsX2_perform_r2 ++ (wsX2_perform_r3 ++ (wsX2_perform_r4 ++ (wsX2_perform_r5 ++ (wsX2_perform_r6 ++ (wsX2_perform_r7 ++ wsX2_perform_r8))))))) ++ wsX20)
def wsX2_move_r1 : List Cond := [Cond.fieldLink RX2 54 "PuppetBar" "refusal" "I", Cond.fieldLink RX2 57 "PuppetBar" "changes" "[I", Cond.methodLink RX2 90 yX2_refusalOfMove, Cond.instanceMethod yX2_refusalOfMove, Cond.selects RX2 yX2_refusalOfMove yX2_refusalOfMove, Cond.initialized RX2, Cond.code yX2_refusalOfMove cX2_refusalOfMove 6 (some .int), Cond.methodLink RX2 83 yX2_refusalOfThread, Cond.instanceMethod yX2_refusalOfThread, Cond.selects RX2 yX2_refusalOfThread yX2_refusalOfThread, Cond.code yX2_refusalOfThread cX2_refusalOfThread 2 (some .int), Cond.fieldLink RX2 29 "PuppetBar" "isCut" "[Z", Cond.methodLink RX2 139 yX2_wantsOther, Cond.static yX2_wantsOther, Cond.code yX2_wantsOther cX2_wantsOther 1 (some .boolean), Cond.methodLink RX2 94 yX2_clearChanges, Cond.instanceMethod yX2_clearChanges, Cond.selects RX2 yX2_clearChanges yX2_clearChanges, Cond.code yX2_clearChanges cX2_clearChanges 2 none, Cond.methodLink RX2 97 yX2_perform, Cond.instanceMethod yX2_perform, Cond.selects RX2 yX2_perform yX2_perform, Cond.code yX2_perform cX2_perform 4 none, Cond.fieldLink RX2 9 "PuppetBar" "lengths" "[J"]
def wsX2_move_r2 : List Cond := [Cond.fieldLink RX2 13 "PuppetBar" "pulls" "[I", Cond.methodLink RX2 145 yX2_flip, Cond.instanceMethod yX2_flip, Cond.selects RX2 yX2_flip yX2_flip, Cond.code yX2_flip cX2_flip 2 none, Cond.fieldLink RX2 17 "PuppetBar" "knots" "[I", Cond.methodLink RX2 199 Lib.Math.abs.name, Cond.static Lib.Math.abs.name, Cond.initialized "java/lang/Math", Cond.code Lib.Math.abs.name Lib.Math.abs.code 1 (some .int), Cond.fieldLink RX2 20 "PuppetBar" "twists" "[J", Cond.methodLink RX2 207 Lib.MathLoose.abs_long.x, Cond.static Lib.MathLoose.abs_long.x, Cond.code Lib.MathLoose.abs_long.x Lib.MathLoose.abs_long.code 2 (some .long), Cond.methodLink RX2 127 yX1_amount, Cond.static yX1_amount, Cond.initialized RX1, Cond.code yX1_amount cX1_amount 2 (some .long), Cond.constantLong RX1 9 (9223372036854775807), Cond.methodLink RX2 192 yX2_changeLength, Cond.instanceMethod yX2_changeLength, Cond.selects RX2 yX2_changeLength yX2_changeLength, Cond.code yX2_changeLength cX2_changeLength 4 none, Cond.methodLink RX2 135 yX1_shortAmount]
def wsX2_move_r3 : List Cond := [Cond.static yX1_shortAmount, Cond.code yX1_shortAmount cX1_shortAmount 1 (some .int), Cond.constant RX1 11 (2147483647), Cond.methodLink RX2 196 yX2_changePull, Cond.instanceMethod yX2_changePull, Cond.selects RX2 yX2_changePull yX2_changePull, Cond.code yX2_changePull cX2_changePull 3 none, Cond.methodLink RX2 204 yX2_changeKnots, Cond.instanceMethod yX2_changeKnots, Cond.selects RX2 yX2_changeKnots yX2_changeKnots, Cond.code yX2_changeKnots cX2_changeKnots 3 none, Cond.methodLink RX2 209 yX2_changeTwist, Cond.instanceMethod yX2_changeTwist, Cond.selects RX2 yX2_changeTwist yX2_changeTwist, Cond.code yX2_changeTwist cX2_changeTwist 4 none, Cond.methodLink RX2 148 yX2_stretch, Cond.instanceMethod yX2_stretch, Cond.selects RX2 yX2_stretch yX2_stretch, Cond.code yX2_stretch cX2_stretch 3 none, Cond.methodLink RX2 219 Lib.Math.max.name, Cond.static Lib.Math.max.name, Cond.code Lib.Math.max.name Lib.Math.max.code 2 (some .int), Cond.methodLink RX2 222 Lib.MathLoose.max_long.x, Cond.static Lib.MathLoose.max_long.x]
def wsX2_move_r4 : List Cond := [Cond.code Lib.MathLoose.max_long.x Lib.MathLoose.max_long.code 4 (some .long), Cond.methodLink RX2 212 yX1_greater, Cond.static yX1_greater, Cond.code yX1_greater cX1_greater 4 (some .long), Cond.methodLink RX1 15 yX1_rank, Cond.static yX1_rank, Cond.code yX1_rank cX1_rank 2 (some .long), Cond.methodLink RX2 216 yX1_shortGreater, Cond.static yX1_shortGreater, Cond.code yX1_shortGreater cX1_shortGreater 2 (some .int), Cond.methodLink RX1 19 yX1_shortRank, Cond.static yX1_shortRank, Cond.code yX1_shortRank cX1_shortRank 1 (some .int), Cond.methodLink RX2 152 yX2_ease, Cond.instanceMethod yX2_ease, Cond.selects RX2 yX2_ease yX2_ease, Cond.code yX2_ease cX2_ease 3 none, Cond.methodLink RX2 230 Lib.Math.min.name, Cond.static Lib.Math.min.name, Cond.code Lib.Math.min.name Lib.Math.min.code 2 (some .int), Cond.methodLink RX2 233 Lib.MathLoose.min_long.x, Cond.static Lib.MathLoose.min_long.x, Cond.code Lib.MathLoose.min_long.x Lib.MathLoose.min_long.code 4 (some .long), Cond.methodLink RX2 224 yX1_lesser]
def wsX2_move_r5 : List Cond := [Cond.static yX1_lesser, Cond.code yX1_lesser cX1_lesser 4 (some .long), Cond.methodLink RX2 227 yX1_shortLesser, Cond.static yX1_shortLesser, Cond.code yX1_shortLesser cX1_shortLesser 2 (some .int), Cond.methodLink RX2 155 yX2_letToWhole, Cond.instanceMethod yX2_letToWhole, Cond.selects RX2 yX2_letToWhole yX2_letToWhole, Cond.code yX2_letToWhole cX2_letToWhole 8 none, Cond.methodLink RX2 235 yX1_wholeAbove, Cond.static yX1_wholeAbove, Cond.code yX1_wholeAbove cX1_wholeAbove 6 (some .long), Cond.methodLink RX1 27 yX1_wholeBelow, Cond.static yX1_wholeBelow, Cond.code yX1_wholeBelow cX1_wholeBelow 5 (some .long), Cond.methodLink RX1 23 yX1_power, Cond.static yX1_power, Cond.code yX1_power cX1_power 4 (some .int), Cond.methodLink RX1 31 yX1_nextWhole, Cond.static yX1_nextWhole, Cond.code yX1_nextWhole cX1_nextWhole 4 (some .long), Cond.methodLink RX2 239 yX1_wholeBelow, Cond.methodLink RX2 242 yX2_changeAmounts, Cond.instanceMethod yX2_changeAmounts]
def wsX2_move_r6 : List Cond := [Cond.selects RX2 yX2_changeAmounts yX2_changeAmounts, Cond.code yX2_changeAmounts cX2_changeAmounts 6 none, Cond.methodLink RX2 251 yX1_withSign, Cond.static yX1_withSign, Cond.code yX1_withSign cX1_withSign 4 (some .long), Cond.constantLong RX1 12 (-9223372036854775808), Cond.methodLink RX2 255 yX1_shortWithSign, Cond.static yX1_shortWithSign, Cond.code yX1_shortWithSign cX1_shortWithSign 2 (some .int), Cond.constant RX1 14 (-2147483648), Cond.methodLink RX2 159 yX2_letNear, Cond.instanceMethod yX2_letNear, Cond.selects RX2 yX2_letNear yX2_letNear, Cond.code yX2_letNear cX2_letNear 2 none, Cond.methodLink RX2 246 yX1_wholeNear, Cond.static yX1_wholeNear, Cond.code yX1_wholeNear cX1_wholeNear 13 (some .long), Cond.methodLink RX2 162 yX2_lean, Cond.instanceMethod yX2_lean, Cond.selects RX2 yX2_lean yX2_lean, Cond.code yX2_lean cX2_lean 2 none, Cond.fieldLink RX2 33 "PuppetBar" "tilt" "J", Cond.constantLong RX2 249 (4607182418800017408), Cond.fieldLink RX2 37 "PuppetBar" "weight" "I"]
def wsX2_move_r7 : List Cond := [Cond.constant RX2 254 (1065353216), Cond.methodLink RX2 165 yX2_mirror, Cond.instanceMethod yX2_mirror, Cond.selects RX2 yX2_mirror yX2_mirror, Cond.code yX2_mirror cX2_mirror 3 none, Cond.methodLink RX2 168 yX2_hold, Cond.instanceMethod yX2_hold, Cond.selects RX2 yX2_hold yX2_hold, Cond.code yX2_hold cX2_hold 2 none, Cond.fieldLink RX2 23 "PuppetBar" "lows" "[J", Cond.fieldLink RX2 26 "PuppetBar" "highs" "[J", Cond.methodLink RX2 171 yX2_placeStops, Cond.instanceMethod yX2_placeStops, Cond.selects RX2 yX2_placeStops yX2_placeStops, Cond.code yX2_placeStops cX2_placeStops 3 none, Cond.methodLink RX2 174 yX2_gather, Cond.instanceMethod yX2_gather, Cond.selects RX2 yX2_gather yX2_gather, Cond.code yX2_gather cX2_gather 2 none, Cond.fieldLink RX2 41 "PuppetBar" "count" "I", Cond.fieldLink RX2 44 "PuppetBar" "turn" "J", Cond.methodLink RX2 177 yX2_trade, Cond.instanceMethod yX2_trade, Cond.selects RX2 yX2_trade yX2_trade]
def wsX2_move_r8 : List Cond := [Cond.code yX2_trade cX2_trade 13 none, Cond.methodLink RX2 180 yX2_climb, Cond.instanceMethod yX2_climb, Cond.selects RX2 yX2_climb yX2_climb, Cond.code yX2_climb cX2_climb 2 none, Cond.methodLink RX2 183 yX2_halve, Cond.instanceMethod yX2_halve, Cond.selects RX2 yX2_halve yX2_halve, Cond.code yX2_halve cX2_halve 2 none, Cond.constantLong RX2 133 (9218868437227405312), Cond.constantLong RX2 262 (2139095040), Cond.methodLink RX2 258 yX1_half, Cond.static yX1_half, Cond.code yX1_half cX1_half 9 (some .long), Cond.constantLong RX1 34 (2), Cond.methodLink RX2 186 yX2_makeTwice, Cond.instanceMethod yX2_makeTwice, Cond.selects RX2 yX2_makeTwice yX2_makeTwice, Cond.code yX2_makeTwice cX2_makeTwice 2 none, Cond.methodLink RX2 264 yX1_twice, Cond.static yX1_twice, Cond.code yX1_twice cX1_twice 9 (some .long), Cond.methodLink RX2 189 yX2_give, Cond.instanceMethod yX2_give]
def wsX2_move_r9 : List Cond := [Cond.selects RX2 yX2_give yX2_give, Cond.code yX2_give cX2_give 2 none]
def wsX2_move : List Cond := .code yX2_move cX2_move 4 (some .int) :: ((wsX2_move_r1 ++ (wsX2_move_r2 ++ (wsX2_move_r3 ++ (wsX2_move_r4 ++ (wsX2_move_r5 ++ (wsX2_move_r6 ++ (wsX2_move_r7 ++ (wsX2_move_r8 ++ wsX2_move_r9)))))))) ++ wsX20)
def wsX2_step : List Cond := .code yX2_step cX2_step 5 (some .int) :: ([.fieldLink RX2 50 "PuppetBar" "figure" "LPuppetBar$Figure;", .fieldLink RX2 101 "PuppetBar$Figure" "size" "I", .fieldLink RX2 104 "PuppetBar$Figure" "moves" "[I", .fieldLink RX2 107 "PuppetBar$Figure" "threads" "[I", .fieldLink RX2 110 "PuppetBar$Figure" "others" "[I"] ++ wsX20 ++ wsX00)
def wsX2_forget : List Cond := .code yX2_forget cX2_forget 2 (some .int) :: ([.fieldLink RX2 50 "PuppetBar" "figure" "LPuppetBar$Figure;", .fieldLink RX2 101 "PuppetBar$Figure" "size" "I"] ++ wsX20 ++ wsX00)
def wsX2_danceOnce_r1 : List Cond := [Cond.fieldLink RX2 50 "PuppetBar" "figure" "LPuppetBar$Figure;", Cond.fieldLink RX2 101 "PuppetBar$Figure" "size" "I", Cond.fieldLink RX2 104 "PuppetBar$Figure" "moves" "[I", Cond.fieldLink RX2 107 "PuppetBar$Figure" "threads" "[I", Cond.fieldLink RX2 110 "PuppetBar$Figure" "others" "[I", Cond.fieldLink RX2 54 "PuppetBar" "refusal" "I", Cond.methodLink RX2 90 yX2_refusalOfMove, Cond.instanceMethod yX2_refusalOfMove, Cond.selects RX2 yX2_refusalOfMove yX2_refusalOfMove, Cond.initialized RX2, Cond.code yX2_refusalOfMove cX2_refusalOfMove 6 (some .int), Cond.methodLink RX2 83 yX2_refusalOfThread, Cond.instanceMethod yX2_refusalOfThread, Cond.selects RX2 yX2_refusalOfThread yX2_refusalOfThread, Cond.code yX2_refusalOfThread cX2_refusalOfThread 2 (some .int), Cond.fieldLink RX2 29 "PuppetBar" "isCut" "[Z", Cond.methodLink RX2 139 yX2_wantsOther, Cond.static yX2_wantsOther, Cond.code yX2_wantsOther cX2_wantsOther 1 (some .boolean), Cond.methodLink RX2 97 yX2_perform, Cond.instanceMethod yX2_perform, Cond.selects RX2 yX2_perform yX2_perform, Cond.code yX2_perform cX2_perform 4 none, Cond.fieldLink RX2 9 "PuppetBar" "lengths" "[J"]
def wsX2_danceOnce_r2 : List Cond := [Cond.fieldLink RX2 13 "PuppetBar" "pulls" "[I", Cond.methodLink RX2 145 yX2_flip, Cond.instanceMethod yX2_flip, Cond.selects RX2 yX2_flip yX2_flip, Cond.code yX2_flip cX2_flip 2 none, Cond.fieldLink RX2 17 "PuppetBar" "knots" "[I", Cond.methodLink RX2 199 Lib.Math.abs.name, Cond.static Lib.Math.abs.name, Cond.initialized "java/lang/Math", Cond.code Lib.Math.abs.name Lib.Math.abs.code 1 (some .int), Cond.fieldLink RX2 20 "PuppetBar" "twists" "[J", Cond.methodLink RX2 207 Lib.MathLoose.abs_long.x, Cond.static Lib.MathLoose.abs_long.x, Cond.code Lib.MathLoose.abs_long.x Lib.MathLoose.abs_long.code 2 (some .long), Cond.methodLink RX2 127 yX1_amount, Cond.static yX1_amount, Cond.initialized RX1, Cond.code yX1_amount cX1_amount 2 (some .long), Cond.constantLong RX1 9 (9223372036854775807), Cond.methodLink RX2 192 yX2_changeLength, Cond.instanceMethod yX2_changeLength, Cond.selects RX2 yX2_changeLength yX2_changeLength, Cond.code yX2_changeLength cX2_changeLength 4 none, Cond.fieldLink RX2 57 "PuppetBar" "changes" "[I"]
def wsX2_danceOnce_r3 : List Cond := [Cond.methodLink RX2 135 yX1_shortAmount, Cond.static yX1_shortAmount, Cond.code yX1_shortAmount cX1_shortAmount 1 (some .int), Cond.constant RX1 11 (2147483647), Cond.methodLink RX2 196 yX2_changePull, Cond.instanceMethod yX2_changePull, Cond.selects RX2 yX2_changePull yX2_changePull, Cond.code yX2_changePull cX2_changePull 3 none, Cond.methodLink RX2 204 yX2_changeKnots, Cond.instanceMethod yX2_changeKnots, Cond.selects RX2 yX2_changeKnots yX2_changeKnots, Cond.code yX2_changeKnots cX2_changeKnots 3 none, Cond.methodLink RX2 209 yX2_changeTwist, Cond.instanceMethod yX2_changeTwist, Cond.selects RX2 yX2_changeTwist yX2_changeTwist, Cond.code yX2_changeTwist cX2_changeTwist 4 none, Cond.methodLink RX2 148 yX2_stretch, Cond.instanceMethod yX2_stretch, Cond.selects RX2 yX2_stretch yX2_stretch, Cond.code yX2_stretch cX2_stretch 3 none, Cond.methodLink RX2 219 Lib.Math.max.name, Cond.static Lib.Math.max.name, Cond.code Lib.Math.max.name Lib.Math.max.code 2 (some .int), Cond.methodLink RX2 222 Lib.MathLoose.max_long.x]
def wsX2_danceOnce_r4 : List Cond := [Cond.static Lib.MathLoose.max_long.x, Cond.code Lib.MathLoose.max_long.x Lib.MathLoose.max_long.code 4 (some .long), Cond.methodLink RX2 212 yX1_greater, Cond.static yX1_greater, Cond.code yX1_greater cX1_greater 4 (some .long), Cond.methodLink RX1 15 yX1_rank, Cond.static yX1_rank, Cond.code yX1_rank cX1_rank 2 (some .long), Cond.methodLink RX2 216 yX1_shortGreater, Cond.static yX1_shortGreater, Cond.code yX1_shortGreater cX1_shortGreater 2 (some .int), Cond.methodLink RX1 19 yX1_shortRank, Cond.static yX1_shortRank, Cond.code yX1_shortRank cX1_shortRank 1 (some .int), Cond.methodLink RX2 152 yX2_ease, Cond.instanceMethod yX2_ease, Cond.selects RX2 yX2_ease yX2_ease, Cond.code yX2_ease cX2_ease 3 none, Cond.methodLink RX2 230 Lib.Math.min.name, Cond.static Lib.Math.min.name, Cond.code Lib.Math.min.name Lib.Math.min.code 2 (some .int), Cond.methodLink RX2 233 Lib.MathLoose.min_long.x, Cond.static Lib.MathLoose.min_long.x, Cond.code Lib.MathLoose.min_long.x Lib.MathLoose.min_long.code 4 (some .long)]
def wsX2_danceOnce_r5 : List Cond := [Cond.methodLink RX2 224 yX1_lesser, Cond.static yX1_lesser, Cond.code yX1_lesser cX1_lesser 4 (some .long), Cond.methodLink RX2 227 yX1_shortLesser, Cond.static yX1_shortLesser, Cond.code yX1_shortLesser cX1_shortLesser 2 (some .int), Cond.methodLink RX2 155 yX2_letToWhole, Cond.instanceMethod yX2_letToWhole, Cond.selects RX2 yX2_letToWhole yX2_letToWhole, Cond.code yX2_letToWhole cX2_letToWhole 8 none, Cond.methodLink RX2 235 yX1_wholeAbove, Cond.static yX1_wholeAbove, Cond.code yX1_wholeAbove cX1_wholeAbove 6 (some .long), Cond.methodLink RX1 27 yX1_wholeBelow, Cond.static yX1_wholeBelow, Cond.code yX1_wholeBelow cX1_wholeBelow 5 (some .long), Cond.methodLink RX1 23 yX1_power, Cond.static yX1_power, Cond.code yX1_power cX1_power 4 (some .int), Cond.methodLink RX1 31 yX1_nextWhole, Cond.static yX1_nextWhole, Cond.code yX1_nextWhole cX1_nextWhole 4 (some .long), Cond.methodLink RX2 239 yX1_wholeBelow, Cond.methodLink RX2 242 yX2_changeAmounts]
def wsX2_danceOnce_r6 : List Cond := [Cond.instanceMethod yX2_changeAmounts, Cond.selects RX2 yX2_changeAmounts yX2_changeAmounts, Cond.code yX2_changeAmounts cX2_changeAmounts 6 none, Cond.methodLink RX2 251 yX1_withSign, Cond.static yX1_withSign, Cond.code yX1_withSign cX1_withSign 4 (some .long), Cond.constantLong RX1 12 (-9223372036854775808), Cond.methodLink RX2 255 yX1_shortWithSign, Cond.static yX1_shortWithSign, Cond.code yX1_shortWithSign cX1_shortWithSign 2 (some .int), Cond.constant RX1 14 (-2147483648), Cond.methodLink RX2 159 yX2_letNear, Cond.instanceMethod yX2_letNear, Cond.selects RX2 yX2_letNear yX2_letNear, Cond.code yX2_letNear cX2_letNear 2 none, Cond.methodLink RX2 246 yX1_wholeNear, Cond.static yX1_wholeNear, Cond.code yX1_wholeNear cX1_wholeNear 13 (some .long), Cond.methodLink RX2 162 yX2_lean, Cond.instanceMethod yX2_lean, Cond.selects RX2 yX2_lean yX2_lean, Cond.code yX2_lean cX2_lean 2 none, Cond.fieldLink RX2 33 "PuppetBar" "tilt" "J", Cond.constantLong RX2 249 (4607182418800017408)]
def wsX2_danceOnce_r7 : List Cond := [Cond.fieldLink RX2 37 "PuppetBar" "weight" "I", Cond.constant RX2 254 (1065353216), Cond.methodLink RX2 165 yX2_mirror, Cond.instanceMethod yX2_mirror, Cond.selects RX2 yX2_mirror yX2_mirror, Cond.code yX2_mirror cX2_mirror 3 none, Cond.methodLink RX2 168 yX2_hold, Cond.instanceMethod yX2_hold, Cond.selects RX2 yX2_hold yX2_hold, Cond.code yX2_hold cX2_hold 2 none, Cond.fieldLink RX2 23 "PuppetBar" "lows" "[J", Cond.fieldLink RX2 26 "PuppetBar" "highs" "[J", Cond.methodLink RX2 171 yX2_placeStops, Cond.instanceMethod yX2_placeStops, Cond.selects RX2 yX2_placeStops yX2_placeStops, Cond.code yX2_placeStops cX2_placeStops 3 none, Cond.methodLink RX2 174 yX2_gather, Cond.instanceMethod yX2_gather, Cond.selects RX2 yX2_gather yX2_gather, Cond.code yX2_gather cX2_gather 2 none, Cond.fieldLink RX2 41 "PuppetBar" "count" "I", Cond.fieldLink RX2 44 "PuppetBar" "turn" "J", Cond.methodLink RX2 177 yX2_trade, Cond.instanceMethod yX2_trade]
def wsX2_danceOnce_r8 : List Cond := [Cond.selects RX2 yX2_trade yX2_trade, Cond.code yX2_trade cX2_trade 13 none, Cond.methodLink RX2 180 yX2_climb, Cond.instanceMethod yX2_climb, Cond.selects RX2 yX2_climb yX2_climb, Cond.code yX2_climb cX2_climb 2 none, Cond.methodLink RX2 183 yX2_halve, Cond.instanceMethod yX2_halve, Cond.selects RX2 yX2_halve yX2_halve, Cond.code yX2_halve cX2_halve 2 none, Cond.constantLong RX2 133 (9218868437227405312), Cond.constantLong RX2 262 (2139095040), Cond.methodLink RX2 258 yX1_half, Cond.static yX1_half, Cond.code yX1_half cX1_half 9 (some .long), Cond.constantLong RX1 34 (2), Cond.methodLink RX2 186 yX2_makeTwice, Cond.instanceMethod yX2_makeTwice, Cond.selects RX2 yX2_makeTwice yX2_makeTwice, Cond.code yX2_makeTwice cX2_makeTwice 2 none, Cond.methodLink RX2 264 yX1_twice, Cond.static yX1_twice, Cond.code yX1_twice cX1_twice 9 (some .long), Cond.methodLink RX2 189 yX2_give]
def wsX2_danceOnce_r9 : List Cond := [Cond.instanceMethod yX2_give, Cond.selects RX2 yX2_give yX2_give, Cond.code yX2_give cX2_give 2 none]
def wsX2_danceOnce : List Cond := .code yX2_danceOnce cX2_danceOnce 2 (some .int) :: ((wsX2_danceOnce_r1 ++ (wsX2_danceOnce_r2 ++ (wsX2_danceOnce_r3 ++ (wsX2_danceOnce_r4 ++ (wsX2_danceOnce_r5 ++ (wsX2_danceOnce_r6 ++ (wsX2_danceOnce_r7 ++ (wsX2_danceOnce_r8 ++ wsX2_danceOnce_r9)))))))) ++ wsX20 ++ wsX00)
def wsX2_keepDance : List Cond := .code yX2_keepDance cX2_keepDance 3 none :: ([.fieldLink RX2 60 "PuppetBar" "latestDance" "[I", .fieldLink RX2 57 "PuppetBar" "changes" "[I"] ++ wsX20)
def wsX2_dance_r1 : List Cond := [Cond.fieldLink RX2 54 "PuppetBar" "refusal" "I", Cond.methodLink RX2 94 yX2_clearChanges, Cond.instanceMethod yX2_clearChanges, Cond.selects RX2 yX2_clearChanges yX2_clearChanges, Cond.initialized RX2, Cond.code yX2_clearChanges cX2_clearChanges 2 none, Cond.fieldLink RX2 57 "PuppetBar" "changes" "[I", Cond.methodLink RX2 113 yX2_danceOnce, Cond.instanceMethod yX2_danceOnce, Cond.selects RX2 yX2_danceOnce yX2_danceOnce, Cond.code yX2_danceOnce cX2_danceOnce 2 (some .int), Cond.fieldLink RX2 50 "PuppetBar" "figure" "LPuppetBar$Figure;", Cond.fieldLink RX2 101 "PuppetBar$Figure" "size" "I", Cond.fieldLink RX2 104 "PuppetBar$Figure" "moves" "[I", Cond.fieldLink RX2 107 "PuppetBar$Figure" "threads" "[I", Cond.fieldLink RX2 110 "PuppetBar$Figure" "others" "[I", Cond.methodLink RX2 90 yX2_refusalOfMove, Cond.instanceMethod yX2_refusalOfMove, Cond.selects RX2 yX2_refusalOfMove yX2_refusalOfMove, Cond.code yX2_refusalOfMove cX2_refusalOfMove 6 (some .int), Cond.methodLink RX2 83 yX2_refusalOfThread, Cond.instanceMethod yX2_refusalOfThread, Cond.selects RX2 yX2_refusalOfThread yX2_refusalOfThread, Cond.code yX2_refusalOfThread cX2_refusalOfThread 2 (some .int)]
def wsX2_dance_r2 : List Cond := [Cond.fieldLink RX2 29 "PuppetBar" "isCut" "[Z", Cond.methodLink RX2 139 yX2_wantsOther, Cond.static yX2_wantsOther, Cond.code yX2_wantsOther cX2_wantsOther 1 (some .boolean), Cond.methodLink RX2 97 yX2_perform, Cond.instanceMethod yX2_perform, Cond.selects RX2 yX2_perform yX2_perform, Cond.code yX2_perform cX2_perform 4 none, Cond.fieldLink RX2 9 "PuppetBar" "lengths" "[J", Cond.fieldLink RX2 13 "PuppetBar" "pulls" "[I", Cond.methodLink RX2 145 yX2_flip, Cond.instanceMethod yX2_flip, Cond.selects RX2 yX2_flip yX2_flip, Cond.code yX2_flip cX2_flip 2 none, Cond.fieldLink RX2 17 "PuppetBar" "knots" "[I", Cond.methodLink RX2 199 Lib.Math.abs.name, Cond.static Lib.Math.abs.name, Cond.initialized "java/lang/Math", Cond.code Lib.Math.abs.name Lib.Math.abs.code 1 (some .int), Cond.fieldLink RX2 20 "PuppetBar" "twists" "[J", Cond.methodLink RX2 207 Lib.MathLoose.abs_long.x, Cond.static Lib.MathLoose.abs_long.x, Cond.code Lib.MathLoose.abs_long.x Lib.MathLoose.abs_long.code 2 (some .long), Cond.methodLink RX2 127 yX1_amount]
def wsX2_dance_r3 : List Cond := [Cond.static yX1_amount, Cond.initialized RX1, Cond.code yX1_amount cX1_amount 2 (some .long), Cond.constantLong RX1 9 (9223372036854775807), Cond.methodLink RX2 192 yX2_changeLength, Cond.instanceMethod yX2_changeLength, Cond.selects RX2 yX2_changeLength yX2_changeLength, Cond.code yX2_changeLength cX2_changeLength 4 none, Cond.methodLink RX2 135 yX1_shortAmount, Cond.static yX1_shortAmount, Cond.code yX1_shortAmount cX1_shortAmount 1 (some .int), Cond.constant RX1 11 (2147483647), Cond.methodLink RX2 196 yX2_changePull, Cond.instanceMethod yX2_changePull, Cond.selects RX2 yX2_changePull yX2_changePull, Cond.code yX2_changePull cX2_changePull 3 none, Cond.methodLink RX2 204 yX2_changeKnots, Cond.instanceMethod yX2_changeKnots, Cond.selects RX2 yX2_changeKnots yX2_changeKnots, Cond.code yX2_changeKnots cX2_changeKnots 3 none, Cond.methodLink RX2 209 yX2_changeTwist, Cond.instanceMethod yX2_changeTwist, Cond.selects RX2 yX2_changeTwist yX2_changeTwist, Cond.code yX2_changeTwist cX2_changeTwist 4 none]
def wsX2_dance_r4 : List Cond := [Cond.methodLink RX2 148 yX2_stretch, Cond.instanceMethod yX2_stretch, Cond.selects RX2 yX2_stretch yX2_stretch, Cond.code yX2_stretch cX2_stretch 3 none, Cond.methodLink RX2 219 Lib.Math.max.name, Cond.static Lib.Math.max.name, Cond.code Lib.Math.max.name Lib.Math.max.code 2 (some .int), Cond.methodLink RX2 222 Lib.MathLoose.max_long.x, Cond.static Lib.MathLoose.max_long.x, Cond.code Lib.MathLoose.max_long.x Lib.MathLoose.max_long.code 4 (some .long), Cond.methodLink RX2 212 yX1_greater, Cond.static yX1_greater, Cond.code yX1_greater cX1_greater 4 (some .long), Cond.methodLink RX1 15 yX1_rank, Cond.static yX1_rank, Cond.code yX1_rank cX1_rank 2 (some .long), Cond.methodLink RX2 216 yX1_shortGreater, Cond.static yX1_shortGreater, Cond.code yX1_shortGreater cX1_shortGreater 2 (some .int), Cond.methodLink RX1 19 yX1_shortRank, Cond.static yX1_shortRank, Cond.code yX1_shortRank cX1_shortRank 1 (some .int), Cond.methodLink RX2 152 yX2_ease, Cond.instanceMethod yX2_ease]
def wsX2_dance_r5 : List Cond := [Cond.selects RX2 yX2_ease yX2_ease, Cond.code yX2_ease cX2_ease 3 none, Cond.methodLink RX2 230 Lib.Math.min.name, Cond.static Lib.Math.min.name, Cond.code Lib.Math.min.name Lib.Math.min.code 2 (some .int), Cond.methodLink RX2 233 Lib.MathLoose.min_long.x, Cond.static Lib.MathLoose.min_long.x, Cond.code Lib.MathLoose.min_long.x Lib.MathLoose.min_long.code 4 (some .long), Cond.methodLink RX2 224 yX1_lesser, Cond.static yX1_lesser, Cond.code yX1_lesser cX1_lesser 4 (some .long), Cond.methodLink RX2 227 yX1_shortLesser, Cond.static yX1_shortLesser, Cond.code yX1_shortLesser cX1_shortLesser 2 (some .int), Cond.methodLink RX2 155 yX2_letToWhole, Cond.instanceMethod yX2_letToWhole, Cond.selects RX2 yX2_letToWhole yX2_letToWhole, Cond.code yX2_letToWhole cX2_letToWhole 8 none, Cond.methodLink RX2 235 yX1_wholeAbove, Cond.static yX1_wholeAbove, Cond.code yX1_wholeAbove cX1_wholeAbove 6 (some .long), Cond.methodLink RX1 27 yX1_wholeBelow, Cond.static yX1_wholeBelow, Cond.code yX1_wholeBelow cX1_wholeBelow 5 (some .long)]
def wsX2_dance_r6 : List Cond := [Cond.methodLink RX1 23 yX1_power, Cond.static yX1_power, Cond.code yX1_power cX1_power 4 (some .int), Cond.methodLink RX1 31 yX1_nextWhole, Cond.static yX1_nextWhole, Cond.code yX1_nextWhole cX1_nextWhole 4 (some .long), Cond.methodLink RX2 239 yX1_wholeBelow, Cond.methodLink RX2 242 yX2_changeAmounts, Cond.instanceMethod yX2_changeAmounts, Cond.selects RX2 yX2_changeAmounts yX2_changeAmounts, Cond.code yX2_changeAmounts cX2_changeAmounts 6 none, Cond.methodLink RX2 251 yX1_withSign, Cond.static yX1_withSign, Cond.code yX1_withSign cX1_withSign 4 (some .long), Cond.constantLong RX1 12 (-9223372036854775808), Cond.methodLink RX2 255 yX1_shortWithSign, Cond.static yX1_shortWithSign, Cond.code yX1_shortWithSign cX1_shortWithSign 2 (some .int), Cond.constant RX1 14 (-2147483648), Cond.methodLink RX2 159 yX2_letNear, Cond.instanceMethod yX2_letNear, Cond.selects RX2 yX2_letNear yX2_letNear, Cond.code yX2_letNear cX2_letNear 2 none, Cond.methodLink RX2 246 yX1_wholeNear]
def wsX2_dance_r7 : List Cond := [Cond.static yX1_wholeNear, Cond.code yX1_wholeNear cX1_wholeNear 13 (some .long), Cond.methodLink RX2 162 yX2_lean, Cond.instanceMethod yX2_lean, Cond.selects RX2 yX2_lean yX2_lean, Cond.code yX2_lean cX2_lean 2 none, Cond.fieldLink RX2 33 "PuppetBar" "tilt" "J", Cond.constantLong RX2 249 (4607182418800017408), Cond.fieldLink RX2 37 "PuppetBar" "weight" "I", Cond.constant RX2 254 (1065353216), Cond.methodLink RX2 165 yX2_mirror, Cond.instanceMethod yX2_mirror, Cond.selects RX2 yX2_mirror yX2_mirror, Cond.code yX2_mirror cX2_mirror 3 none, Cond.methodLink RX2 168 yX2_hold, Cond.instanceMethod yX2_hold, Cond.selects RX2 yX2_hold yX2_hold, Cond.code yX2_hold cX2_hold 2 none, Cond.fieldLink RX2 23 "PuppetBar" "lows" "[J", Cond.fieldLink RX2 26 "PuppetBar" "highs" "[J", Cond.methodLink RX2 171 yX2_placeStops, Cond.instanceMethod yX2_placeStops, Cond.selects RX2 yX2_placeStops yX2_placeStops, Cond.code yX2_placeStops cX2_placeStops 3 none]
def wsX2_dance_r8 : List Cond := [Cond.methodLink RX2 174 yX2_gather, Cond.instanceMethod yX2_gather, Cond.selects RX2 yX2_gather yX2_gather, Cond.code yX2_gather cX2_gather 2 none, Cond.fieldLink RX2 41 "PuppetBar" "count" "I", Cond.fieldLink RX2 44 "PuppetBar" "turn" "J", Cond.methodLink RX2 177 yX2_trade, Cond.instanceMethod yX2_trade, Cond.selects RX2 yX2_trade yX2_trade, Cond.code yX2_trade cX2_trade 13 none, Cond.methodLink RX2 180 yX2_climb, Cond.instanceMethod yX2_climb, Cond.selects RX2 yX2_climb yX2_climb, Cond.code yX2_climb cX2_climb 2 none, Cond.methodLink RX2 183 yX2_halve, Cond.instanceMethod yX2_halve, Cond.selects RX2 yX2_halve yX2_halve, Cond.code yX2_halve cX2_halve 2 none, Cond.constantLong RX2 133 (9218868437227405312), Cond.constantLong RX2 262 (2139095040), Cond.methodLink RX2 258 yX1_half, Cond.static yX1_half, Cond.code yX1_half cX1_half 9 (some .long), Cond.constantLong RX1 34 (2)]
def wsX2_dance_r9 : List Cond := [Cond.methodLink RX2 186 yX2_makeTwice, Cond.instanceMethod yX2_makeTwice, Cond.selects RX2 yX2_makeTwice yX2_makeTwice, Cond.code yX2_makeTwice cX2_makeTwice 2 none, Cond.methodLink RX2 264 yX1_twice, Cond.static yX1_twice, Cond.code yX1_twice cX1_twice 9 (some .long), Cond.methodLink RX2 189 yX2_give, Cond.instanceMethod yX2_give, Cond.selects RX2 yX2_give yX2_give, Cond.code yX2_give cX2_give 2 none, Cond.methodLink RX2 117 yX2_keepDance, Cond.instanceMethod yX2_keepDance, Cond.selects RX2 yX2_keepDance yX2_keepDance, Cond.code yX2_keepDance cX2_keepDance 3 none, Cond.fieldLink RX2 60 "PuppetBar" "latestDance" "[I"]
def wsX2_dance : List Cond := .code yX2_dance cX2_dance 6 (some .int) :: ((wsX2_dance_r1 ++ (wsX2_dance_r2 ++ (wsX2_dance_r3 ++ (wsX2_dance_r4 ++ (wsX2_dance_r5 ++ (wsX2_dance_r6 ++ (wsX2_dance_r7 ++ (wsX2_dance_r8 ++ wsX2_dance_r9)))))))) ++ wsX20 ++ wsX00)
def wsX2_danced : List Cond := .code yX2_danced cX2_danced 2 (some .int) :: ([.fieldLink RX2 60 "PuppetBar" "latestDance" "[I"] ++ wsX20)
def wsX2_bar : List Cond := .code yX2_bar cX2_bar 2 (some .long) :: ([.fieldLink RX2 33 "PuppetBar" "tilt" "J", .fieldLink RX2 37 "PuppetBar" "weight" "I", .fieldLink RX2 41 "PuppetBar" "count" "I", .fieldLink RX2 44 "PuppetBar" "turn" "J"] ++ wsX20)
def wsJ13_compare_74951 : List Cond := .code yJ13_compare_74951 cJ13_compare_74951 4 (some .int) :: ([])
def wsJ6_compare_7cf53 : List Cond := .code yJ6_compare_7cf53 cJ6_compare_7cf53 2 (some .int) :: ([])
def wsX2_compareStrung : List Cond := .code yX2_compareStrung cX2_compareStrung 4 (some .int) :: ([.fieldLink RX2 9 "PuppetBar" "lengths" "[J", .fieldLink RX2 13 "PuppetBar" "pulls" "[I", .fieldLink RX2 17 "PuppetBar" "knots" "[I", .fieldLink RX2 20 "PuppetBar" "twists" "[J", .methodLink RX2 274 yX1_rank, .static yX1_rank, .initialized RX1, .code yX1_rank cX1_rank 2 (some .long), .constantLong RX1 9 (9223372036854775807), .methodLink RX2 277 yJ13_compare_74951, .static yJ13_compare_74951, .initialized RJ13, .code yJ13_compare_74951 cJ13_compare_74951 4 (some .int), .methodLink RX2 283 yX1_shortRank, .static yX1_shortRank, .code yX1_shortRank cX1_shortRank 1 (some .int), .constant RX1 11 (2147483647), .methodLink RX2 286 yJ6_compare_7cf53, .static yJ6_compare_7cf53, .initialized RJ6, .code yJ6_compare_7cf53 cJ6_compare_7cf53 2 (some .int)] ++ wsX20)
def wsX2_isAhead_r1 : List Cond := [Cond.fieldLink RX2 29 "PuppetBar" "isCut" "[Z", Cond.methodLink RX2 271 yX2_compareStrung, Cond.instanceMethod yX2_compareStrung, Cond.selects RX2 yX2_compareStrung yX2_compareStrung, Cond.initialized RX2, Cond.code yX2_compareStrung cX2_compareStrung 4 (some .int), Cond.fieldLink RX2 9 "PuppetBar" "lengths" "[J", Cond.fieldLink RX2 13 "PuppetBar" "pulls" "[I", Cond.fieldLink RX2 17 "PuppetBar" "knots" "[I", Cond.fieldLink RX2 20 "PuppetBar" "twists" "[J", Cond.methodLink RX2 274 yX1_rank, Cond.static yX1_rank, Cond.initialized RX1, Cond.code yX1_rank cX1_rank 2 (some .long), Cond.constantLong RX1 9 (9223372036854775807), Cond.methodLink RX2 277 yJ13_compare_74951, Cond.static yJ13_compare_74951, Cond.initialized RJ13, Cond.code yJ13_compare_74951 cJ13_compare_74951 4 (some .int), Cond.methodLink RX2 283 yX1_shortRank, Cond.static yX1_shortRank, Cond.code yX1_shortRank cX1_shortRank 1 (some .int), Cond.constant RX1 11 (2147483647), Cond.methodLink RX2 286 yJ6_compare_7cf53]
def wsX2_isAhead_r2 : List Cond := [Cond.static yJ6_compare_7cf53, Cond.initialized RJ6, Cond.code yJ6_compare_7cf53 cJ6_compare_7cf53 2 (some .int)]
def wsX2_isAhead : List Cond := .code yX2_isAhead cX2_isAhead 4 (some .boolean) :: ((wsX2_isAhead_r1 ++ wsX2_isAhead_r2) ++ wsX20)
def wsX2_placeOf_r1 : List Cond := [Cond.methodLink RX2 267 yX2_isAhead, Cond.instanceMethod yX2_isAhead, Cond.selects RX2 yX2_isAhead yX2_isAhead, Cond.initialized RX2, Cond.code yX2_isAhead cX2_isAhead 4 (some .boolean), Cond.fieldLink RX2 29 "PuppetBar" "isCut" "[Z", Cond.methodLink RX2 271 yX2_compareStrung, Cond.instanceMethod yX2_compareStrung, Cond.selects RX2 yX2_compareStrung yX2_compareStrung, Cond.code yX2_compareStrung cX2_compareStrung 4 (some .int), Cond.fieldLink RX2 9 "PuppetBar" "lengths" "[J", Cond.fieldLink RX2 13 "PuppetBar" "pulls" "[I", Cond.fieldLink RX2 17 "PuppetBar" "knots" "[I", Cond.fieldLink RX2 20 "PuppetBar" "twists" "[J", Cond.methodLink RX2 274 yX1_rank, Cond.static yX1_rank, Cond.initialized RX1, Cond.code yX1_rank cX1_rank 2 (some .long), Cond.constantLong RX1 9 (9223372036854775807), Cond.methodLink RX2 277 yJ13_compare_74951, Cond.static yJ13_compare_74951, Cond.initialized RJ13, Cond.code yJ13_compare_74951 cJ13_compare_74951 4 (some .int), Cond.methodLink RX2 283 yX1_shortRank]
def wsX2_placeOf_r2 : List Cond := [Cond.static yX1_shortRank, Cond.code yX1_shortRank cX1_shortRank 1 (some .int), Cond.constant RX1 11 (2147483647), Cond.methodLink RX2 286 yJ6_compare_7cf53, Cond.static yJ6_compare_7cf53, Cond.initialized RJ6, Cond.code yJ6_compare_7cf53 cJ6_compare_7cf53 2 (some .int)]
def wsX2_placeOf : List Cond := .code yX2_placeOf cX2_placeOf 4 (some .int) :: ((wsX2_placeOf_r1 ++ wsX2_placeOf_r2) ++ wsX20)
def wsX2_order_r1 : List Cond := [Cond.methodLink RX2 120 yX2_placeOf, Cond.instanceMethod yX2_placeOf, Cond.selects RX2 yX2_placeOf yX2_placeOf, Cond.initialized RX2, Cond.code yX2_placeOf cX2_placeOf 4 (some .int), Cond.methodLink RX2 267 yX2_isAhead, Cond.instanceMethod yX2_isAhead, Cond.selects RX2 yX2_isAhead yX2_isAhead, Cond.code yX2_isAhead cX2_isAhead 4 (some .boolean), Cond.fieldLink RX2 29 "PuppetBar" "isCut" "[Z", Cond.methodLink RX2 271 yX2_compareStrung, Cond.instanceMethod yX2_compareStrung, Cond.selects RX2 yX2_compareStrung yX2_compareStrung, Cond.code yX2_compareStrung cX2_compareStrung 4 (some .int), Cond.fieldLink RX2 9 "PuppetBar" "lengths" "[J", Cond.fieldLink RX2 13 "PuppetBar" "pulls" "[I", Cond.fieldLink RX2 17 "PuppetBar" "knots" "[I", Cond.fieldLink RX2 20 "PuppetBar" "twists" "[J", Cond.methodLink RX2 274 yX1_rank, Cond.static yX1_rank, Cond.initialized RX1, Cond.code yX1_rank cX1_rank 2 (some .long), Cond.constantLong RX1 9 (9223372036854775807), Cond.methodLink RX2 277 yJ13_compare_74951]
def wsX2_order_r2 : List Cond := [Cond.static yJ13_compare_74951, Cond.initialized RJ13, Cond.code yJ13_compare_74951 cJ13_compare_74951 4 (some .int), Cond.methodLink RX2 283 yX1_shortRank, Cond.static yX1_shortRank, Cond.code yX1_shortRank cX1_shortRank 1 (some .int), Cond.constant RX1 11 (2147483647), Cond.methodLink RX2 286 yJ6_compare_7cf53, Cond.static yJ6_compare_7cf53, Cond.initialized RJ6, Cond.code yJ6_compare_7cf53 cJ6_compare_7cf53 2 (some .int)]
def wsX2_order : List Cond := .code yX2_order cX2_order 3 (some .int) :: ((wsX2_order_r1 ++ wsX2_order_r2) ++ wsX20)
def wsX3_bias : List Cond := .code yX3_bias cX3_bias 1 (some .long) :: ([.constantLong RX3 69 (1023), .constantLong RX3 71 (127)])
def wsX3_endless : List Cond := .code yX3_endless cX3_endless 1 (some .long) :: ([.constantLong RX3 76 (2), .methodLink RX3 73 yX3_bias, .static yX3_bias, .initialized RX3, .code yX3_bias cX3_bias 1 (some .long), .constantLong RX3 69 (1023), .constantLong RX3 71 (127)])
def wsX3_sign : List Cond := .code yX3_sign cX3_sign 1 (some .long) :: ([.constantLong RX3 65 (-9223372036854775808), .constantLong RX3 67 (2147483648)])
def wsX3_begin : List Cond := .code yX3_begin cX3_begin 2 none :: ([.fieldLink RX3 7 "PuppetBarModel" "isCut" "[Z", .fieldLink RX3 13 "PuppetBarModel" "length" "[J", .fieldLink RX3 17 "PuppetBarModel" "pull" "[I", .fieldLink RX3 21 "PuppetBarModel" "knots" "[I", .fieldLink RX3 24 "PuppetBarModel" "twist" "[J", .fieldLink RX3 27 "PuppetBarModel" "low" "[J", .fieldLink RX3 30 "PuppetBarModel" "high" "[J", .methodLink RX3 58 yX3_endless, .static yX3_endless, .initialized RX3, .code yX3_endless cX3_endless 1 (some .long), .constantLong RX3 76 (2), .methodLink RX3 73 yX3_bias, .static yX3_bias, .code yX3_bias cX3_bias 1 (some .long), .constantLong RX3 69 (1023), .constantLong RX3 71 (127), .methodLink RX3 62 yX3_sign, .static yX3_sign, .code yX3_sign cX3_sign 1 (some .long), .constantLong RX3 65 (-9223372036854775808), .constantLong RX3 67 (2147483648)] ++ wsX30)
def wsX3_init_r1 : List Cond := [Cond.methodLink RX3 1 objectInit, Cond.instanceMethod objectInit, Cond.code objectInit ⟨#[0xb1]⟩ 1 none, Cond.arrayClass .boolean, Cond.fieldLink RX3 7 "PuppetBarModel" "isCut" "[Z", Cond.arrayClass .long, Cond.fieldLink RX3 13 "PuppetBarModel" "length" "[J", Cond.arrayClass .int, Cond.fieldLink RX3 17 "PuppetBarModel" "pull" "[I", Cond.fieldLink RX3 21 "PuppetBarModel" "knots" "[I", Cond.fieldLink RX3 24 "PuppetBarModel" "twist" "[J", Cond.fieldLink RX3 27 "PuppetBarModel" "low" "[J", Cond.fieldLink RX3 30 "PuppetBarModel" "high" "[J", Cond.fieldLink RX3 33 "PuppetBarModel" "figure" "[I", Cond.fieldLink RX3 36 "PuppetBarModel" "changed" "[I", Cond.fieldLink RX3 39 "PuppetBarModel" "lengthWas" "[J", Cond.fieldLink RX3 42 "PuppetBarModel" "pullWas" "[I", Cond.fieldLink RX3 45 "PuppetBarModel" "knotsWas" "[I", Cond.fieldLink RX3 48 "PuppetBarModel" "twistWas" "[J", Cond.fieldLink RX3 51 "PuppetBarModel" "alone" "[I", Cond.methodLink RX3 54 yX3_begin, Cond.instanceMethod yX3_begin, Cond.selects RX3 yX3_begin yX3_begin, Cond.initialized RX3]
def wsX3_init_r2 : List Cond := [Cond.code yX3_begin cX3_begin 2 none, Cond.methodLink RX3 58 yX3_endless, Cond.static yX3_endless, Cond.code yX3_endless cX3_endless 1 (some .long), Cond.constantLong RX3 76 (2), Cond.methodLink RX3 73 yX3_bias, Cond.static yX3_bias, Cond.code yX3_bias cX3_bias 1 (some .long), Cond.constantLong RX3 69 (1023), Cond.constantLong RX3 71 (127), Cond.methodLink RX3 62 yX3_sign, Cond.static yX3_sign, Cond.code yX3_sign cX3_sign 1 (some .long), Cond.constantLong RX3 65 (-9223372036854775808), Cond.constantLong RX3 67 (2147483648)]
def wsX3_init : List Cond := .code yX3_init cX3_init 2 none :: ((wsX3_init_r1 ++ wsX3_init_r2) ++ wsX30)
def wsX3_one : List Cond := .code yX3_one cX3_one 1 (some .long) :: ([.methodLink RX3 73 yX3_bias, .static yX3_bias, .initialized RX3, .code yX3_bias cX3_bias 1 (some .long), .constantLong RX3 69 (1023), .constantLong RX3 71 (127)])
def wsX3_amount : List Cond := .code yX3_amount cX3_amount 3 (some .long) :: ([.constantLong RX3 78 (-1), .methodLink RX3 62 yX3_sign, .static yX3_sign, .initialized RX3, .code yX3_sign cX3_sign 1 (some .long), .constantLong RX3 65 (-9223372036854775808), .constantLong RX3 67 (2147483648)])
def wsX3_isBelow : List Cond := .code yX3_isBelow cX3_isBelow 3 (some .boolean) :: ([.methodLink RX3 62 yX3_sign, .static yX3_sign, .initialized RX3, .code yX3_sign cX3_sign 1 (some .long), .constantLong RX3 65 (-9223372036854775808), .constantLong RX3 67 (2147483648)])
def wsX3_isNumber : List Cond := .code yX3_isNumber cX3_isNumber 3 (some .boolean) :: ([.methodLink RX3 80 yX3_amount, .static yX3_amount, .initialized RX3, .code yX3_amount cX3_amount 3 (some .long), .constantLong RX3 78 (-1), .methodLink RX3 62 yX3_sign, .static yX3_sign, .code yX3_sign cX3_sign 1 (some .long), .constantLong RX3 65 (-9223372036854775808), .constantLong RX3 67 (2147483648), .methodLink RX3 58 yX3_endless, .static yX3_endless, .code yX3_endless cX3_endless 1 (some .long), .constantLong RX3 76 (2), .methodLink RX3 73 yX3_bias, .static yX3_bias, .code yX3_bias cX3_bias 1 (some .long), .constantLong RX3 69 (1023), .constantLong RX3 71 (127)])
def wsX3_down : List Cond := .code yX3_down cX3_down 7 (some .long) :: ([.constantLong RX3 78 (-1), .methodLink RX3 80 yX3_amount, .static yX3_amount, .initialized RX3, .code yX3_amount cX3_amount 3 (some .long), .methodLink RX3 62 yX3_sign, .static yX3_sign, .code yX3_sign cX3_sign 1 (some .long), .constantLong RX3 65 (-9223372036854775808), .constantLong RX3 67 (2147483648), .methodLink RX3 73 yX3_bias, .static yX3_bias, .code yX3_bias cX3_bias 1 (some .long), .constantLong RX3 69 (1023), .constantLong RX3 71 (127), .methodLink RX3 84 yX3_one, .static yX3_one, .code yX3_one cX3_one 1 (some .long), .methodLink RX3 87 yX3_isBelow, .static yX3_isBelow, .code yX3_isBelow cX3_isBelow 3 (some .boolean)])
def wsX3_up : List Cond := .code yX3_up cX3_up 3 (some .long) :: ([.methodLink RX3 62 yX3_sign, .static yX3_sign, .initialized RX3, .code yX3_sign cX3_sign 1 (some .long), .constantLong RX3 65 (-9223372036854775808), .constantLong RX3 67 (2147483648), .methodLink RX3 91 yX3_down, .static yX3_down, .code yX3_down cX3_down 7 (some .long), .constantLong RX3 78 (-1), .methodLink RX3 80 yX3_amount, .static yX3_amount, .code yX3_amount cX3_amount 3 (some .long), .methodLink RX3 73 yX3_bias, .static yX3_bias, .code yX3_bias cX3_bias 1 (some .long), .constantLong RX3 69 (1023), .constantLong RX3 71 (127), .methodLink RX3 84 yX3_one, .static yX3_one, .code yX3_one cX3_one 1 (some .long), .methodLink RX3 87 yX3_isBelow, .static yX3_isBelow, .code yX3_isBelow cX3_isBelow 3 (some .boolean)])
def wsX3_near : List Cond := .code yX3_near cX3_near 15 (some .long) :: ([.constantLong RX3 78 (-1), .constantLong RX3 76 (2), .methodLink RX3 80 yX3_amount, .static yX3_amount, .initialized RX3, .code yX3_amount cX3_amount 3 (some .long), .methodLink RX3 62 yX3_sign, .static yX3_sign, .code yX3_sign cX3_sign 1 (some .long), .constantLong RX3 65 (-9223372036854775808), .constantLong RX3 67 (2147483648), .methodLink RX3 73 yX3_bias, .static yX3_bias, .code yX3_bias cX3_bias 1 (some .long), .constantLong RX3 69 (1023), .constantLong RX3 71 (127), .methodLink RX3 84 yX3_one, .static yX3_one, .code yX3_one cX3_one 1 (some .long)])
def wsX3_half : List Cond := .code yX3_half cX3_half 7 (some .long) :: ([.methodLink RX3 80 yX3_amount, .static yX3_amount, .initialized RX3, .code yX3_amount cX3_amount 3 (some .long), .constantLong RX3 78 (-1), .methodLink RX3 62 yX3_sign, .static yX3_sign, .code yX3_sign cX3_sign 1 (some .long), .constantLong RX3 65 (-9223372036854775808), .constantLong RX3 67 (2147483648), .methodLink RX3 58 yX3_endless, .static yX3_endless, .code yX3_endless cX3_endless 1 (some .long), .constantLong RX3 76 (2), .methodLink RX3 73 yX3_bias, .static yX3_bias, .code yX3_bias cX3_bias 1 (some .long), .constantLong RX3 69 (1023), .constantLong RX3 71 (127)])
def wsX3_twice : List Cond := .code yX3_twice cX3_twice 5 (some .long) :: ([.constantLong RX3 76 (2), .methodLink RX3 80 yX3_amount, .static yX3_amount, .initialized RX3, .code yX3_amount cX3_amount 3 (some .long), .constantLong RX3 78 (-1), .methodLink RX3 62 yX3_sign, .static yX3_sign, .code yX3_sign cX3_sign 1 (some .long), .constantLong RX3 65 (-9223372036854775808), .constantLong RX3 67 (2147483648), .methodLink RX3 73 yX3_bias, .static yX3_bias, .code yX3_bias cX3_bias 1 (some .long), .constantLong RX3 69 (1023), .constantLong RX3 71 (127), .methodLink RX3 58 yX3_endless, .static yX3_endless, .code yX3_endless cX3_endless 1 (some .long)])
def wsX3_place : List Cond := .code yX3_place cX3_place 2 (some .long) :: ([.constantLong RX3 94 (9223372036854775807)])
def wsX3_place4 : List Cond := .code yX3_place4 cX3_place4 1 (some .int) :: ([.constant RX3 96 (2147483647)])
def wsX3_greater : List Cond := .code yX3_greater cX3_greater 4 (some .long) :: ([.methodLink RX3 97 yX3_place, .static yX3_place, .initialized RX3, .code yX3_place cX3_place 2 (some .long), .constantLong RX3 94 (9223372036854775807)])
def wsX3_lesser : List Cond := .code yX3_lesser cX3_lesser 4 (some .long) :: ([.methodLink RX3 97 yX3_place, .static yX3_place, .initialized RX3, .code yX3_place cX3_place 2 (some .long), .constantLong RX3 94 (9223372036854775807)])
def wsX3_greater4 : List Cond := .code yX3_greater4 cX3_greater4 2 (some .int) :: ([.methodLink RX3 101 yX3_place4, .static yX3_place4, .initialized RX3, .code yX3_place4 cX3_place4 1 (some .int), .constant RX3 96 (2147483647)])
def wsX3_lesser4 : List Cond := .code yX3_lesser4 cX3_lesser4 2 (some .int) :: ([.methodLink RX3 101 yX3_place4, .static yX3_place4, .initialized RX3, .code yX3_place4 cX3_place4 1 (some .int), .constant RX3 96 (2147483647)])
def wsX3_thin : List Cond := .code yX3_thin cX3_thin 1 (some .long) :: ([.constantLong RX3 105 (4294967295)])
def wsX3_amount4 : List Cond := .code yX3_amount4 cX3_amount4 1 (some .int) :: ([.constant RX3 96 (2147483647)])
def wsX3_isThread : List Cond := .code yX3_isThread cX3_isThread 1 (some .boolean) :: ([])
def wsX3_lack : List Cond := .code yX3_lack cX3_lack 2 (some .int) :: ([.fieldLink RX3 7 "PuppetBarModel" "isCut" "[Z", .methodLink RX3 107 yX3_isThread, .static yX3_isThread, .initialized RX3, .code yX3_isThread cX3_isThread 1 (some .boolean)] ++ wsX30)
def wsX3_isReal : List Cond := .code yX3_isReal cX3_isReal 1 (some .boolean) :: ([])
def wsX3_set_r1 : List Cond := [Cond.fieldLink RX3 114 "PuppetBarModel" "refusal" "I", Cond.fieldLink RX3 13 "PuppetBarModel" "length" "[J", Cond.fieldLink RX3 17 "PuppetBarModel" "pull" "[I", Cond.fieldLink RX3 21 "PuppetBarModel" "knots" "[I", Cond.fieldLink RX3 24 "PuppetBarModel" "twist" "[J", Cond.fieldLink RX3 27 "PuppetBarModel" "low" "[J", Cond.fieldLink RX3 30 "PuppetBarModel" "high" "[J", Cond.methodLink RX3 111 yX3_lack, Cond.instanceMethod yX3_lack, Cond.selects RX3 yX3_lack yX3_lack, Cond.initialized RX3, Cond.code yX3_lack cX3_lack 2 (some .int), Cond.fieldLink RX3 7 "PuppetBarModel" "isCut" "[Z", Cond.methodLink RX3 107 yX3_isThread, Cond.static yX3_isThread, Cond.code yX3_isThread cX3_isThread 1 (some .boolean), Cond.methodLink RX3 118 yX3_isReal, Cond.static yX3_isReal, Cond.code yX3_isReal cX3_isReal 1 (some .boolean), Cond.methodLink RX3 121 yX3_thin, Cond.static yX3_thin, Cond.code yX3_thin cX3_thin 1 (some .long), Cond.constantLong RX3 105 (4294967295), Cond.methodLink RX3 124 yX3_isNumber]
def wsX3_set_r2 : List Cond := [Cond.static yX3_isNumber, Cond.code yX3_isNumber cX3_isNumber 3 (some .boolean), Cond.methodLink RX3 80 yX3_amount, Cond.static yX3_amount, Cond.code yX3_amount cX3_amount 3 (some .long), Cond.constantLong RX3 78 (-1), Cond.methodLink RX3 62 yX3_sign, Cond.static yX3_sign, Cond.code yX3_sign cX3_sign 1 (some .long), Cond.constantLong RX3 65 (-9223372036854775808), Cond.constantLong RX3 67 (2147483648), Cond.methodLink RX3 58 yX3_endless, Cond.static yX3_endless, Cond.code yX3_endless cX3_endless 1 (some .long), Cond.constantLong RX3 76 (2), Cond.methodLink RX3 73 yX3_bias, Cond.static yX3_bias, Cond.code yX3_bias cX3_bias 1 (some .long), Cond.constantLong RX3 69 (1023), Cond.constantLong RX3 71 (127)]
def wsX3_set : List Cond := .code yX3_set cX3_set 5 (some .int) :: ((wsX3_set_r1 ++ wsX3_set_r2) ++ wsX30)
def wsX3_get : List Cond := .code yX3_get cX3_get 3 (some .long) :: ([.fieldLink RX3 114 "PuppetBarModel" "refusal" "I", .fieldLink RX3 13 "PuppetBarModel" "length" "[J", .fieldLink RX3 17 "PuppetBarModel" "pull" "[I", .fieldLink RX3 21 "PuppetBarModel" "knots" "[I", .fieldLink RX3 24 "PuppetBarModel" "twist" "[J", .fieldLink RX3 27 "PuppetBarModel" "low" "[J", .fieldLink RX3 30 "PuppetBarModel" "high" "[J", .methodLink RX3 111 yX3_lack, .instanceMethod yX3_lack, .selects RX3 yX3_lack yX3_lack, .initialized RX3, .code yX3_lack cX3_lack 2 (some .int), .fieldLink RX3 7 "PuppetBarModel" "isCut" "[Z", .methodLink RX3 107 yX3_isThread, .static yX3_isThread, .code yX3_isThread cX3_isThread 1 (some .boolean)] ++ wsX30)
def wsX3_refused : List Cond := .code yX3_refused cX3_refused 1 (some .int) :: ([.fieldLink RX3 114 "PuppetBarModel" "refusal" "I"] ++ wsX30)
def wsX3_cut : List Cond := .code yX3_cut cX3_cut 2 (some .int) :: ([.fieldLink RX3 114 "PuppetBarModel" "refusal" "I", .fieldLink RX3 7 "PuppetBarModel" "isCut" "[Z", .methodLink RX3 111 yX3_lack, .instanceMethod yX3_lack, .selects RX3 yX3_lack yX3_lack, .initialized RX3, .code yX3_lack cX3_lack 2 (some .int), .methodLink RX3 107 yX3_isThread, .static yX3_isThread, .code yX3_isThread cX3_isThread 1 (some .boolean)] ++ wsX30)
def wsX3_string_r1 : List Cond := [Cond.fieldLink RX3 7 "PuppetBarModel" "isCut" "[Z", Cond.fieldLink RX3 114 "PuppetBarModel" "refusal" "I", Cond.methodLink RX3 107 yX3_isThread, Cond.static yX3_isThread, Cond.initialized RX3, Cond.code yX3_isThread cX3_isThread 1 (some .boolean), Cond.methodLink RX3 54 yX3_begin, Cond.instanceMethod yX3_begin, Cond.selects RX3 yX3_begin yX3_begin, Cond.code yX3_begin cX3_begin 2 none, Cond.fieldLink RX3 13 "PuppetBarModel" "length" "[J", Cond.fieldLink RX3 17 "PuppetBarModel" "pull" "[I", Cond.fieldLink RX3 21 "PuppetBarModel" "knots" "[I", Cond.fieldLink RX3 24 "PuppetBarModel" "twist" "[J", Cond.fieldLink RX3 27 "PuppetBarModel" "low" "[J", Cond.fieldLink RX3 30 "PuppetBarModel" "high" "[J", Cond.methodLink RX3 58 yX3_endless, Cond.static yX3_endless, Cond.code yX3_endless cX3_endless 1 (some .long), Cond.constantLong RX3 76 (2), Cond.methodLink RX3 73 yX3_bias, Cond.static yX3_bias, Cond.code yX3_bias cX3_bias 1 (some .long), Cond.constantLong RX3 69 (1023)]
def wsX3_string_r2 : List Cond := [Cond.constantLong RX3 71 (127), Cond.methodLink RX3 62 yX3_sign, Cond.static yX3_sign, Cond.code yX3_sign cX3_sign 1 (some .long), Cond.constantLong RX3 65 (-9223372036854775808), Cond.constantLong RX3 67 (2147483648)]
def wsX3_string : List Cond := .code yX3_string cX3_string 2 (some .int) :: ((wsX3_string_r1 ++ wsX3_string_r2) ++ wsX30)
def wsX3_wantsOther : List Cond := .code yX3_wantsOther cX3_wantsOther 1 (some .boolean) :: ([])
def wsX3_lackOf : List Cond := .code yX3_lackOf cX3_lackOf 4 (some .int) :: ([.methodLink RX3 111 yX3_lack, .instanceMethod yX3_lack, .selects RX3 yX3_lack yX3_lack, .initialized RX3, .code yX3_lack cX3_lack 2 (some .int), .fieldLink RX3 7 "PuppetBarModel" "isCut" "[Z", .methodLink RX3 107 yX3_isThread, .static yX3_isThread, .code yX3_isThread cX3_isThread 1 (some .boolean), .methodLink RX3 127 yX3_wantsOther, .static yX3_wantsOther, .code yX3_wantsOther cX3_wantsOther 1 (some .boolean)] ++ wsX30)
def wsX3_flip : List Cond := .code yX3_flip cX3_flip 2 none :: ([.fieldLink RX3 13 "PuppetBarModel" "length" "[J", .fieldLink RX3 17 "PuppetBarModel" "pull" "[I", .fieldLink RX3 21 "PuppetBarModel" "knots" "[I", .fieldLink RX3 24 "PuppetBarModel" "twist" "[J", .methodLink RX3 80 yX3_amount, .static yX3_amount, .initialized RX3, .code yX3_amount cX3_amount 3 (some .long), .constantLong RX3 78 (-1), .methodLink RX3 62 yX3_sign, .static yX3_sign, .code yX3_sign cX3_sign 1 (some .long), .constantLong RX3 65 (-9223372036854775808), .constantLong RX3 67 (2147483648), .methodLink RX3 130 yX3_amount4, .static yX3_amount4, .code yX3_amount4 cX3_amount4 1 (some .int), .constant RX3 96 (2147483647)] ++ wsX30)
def wsX3_stretch : List Cond := .code yX3_stretch cX3_stretch 3 none :: ([.fieldLink RX3 13 "PuppetBarModel" "length" "[J", .fieldLink RX3 17 "PuppetBarModel" "pull" "[I", .fieldLink RX3 21 "PuppetBarModel" "knots" "[I", .fieldLink RX3 24 "PuppetBarModel" "twist" "[J", .methodLink RX3 133 yX3_greater, .static yX3_greater, .initialized RX3, .code yX3_greater cX3_greater 4 (some .long), .methodLink RX3 97 yX3_place, .static yX3_place, .code yX3_place cX3_place 2 (some .long), .constantLong RX3 94 (9223372036854775807), .methodLink RX3 137 yX3_greater4, .static yX3_greater4, .code yX3_greater4 cX3_greater4 2 (some .int), .methodLink RX3 101 yX3_place4, .static yX3_place4, .code yX3_place4 cX3_place4 1 (some .int), .constant RX3 96 (2147483647)] ++ wsX30)
def wsX3_ease : List Cond := .code yX3_ease cX3_ease 3 none :: ([.fieldLink RX3 13 "PuppetBarModel" "length" "[J", .fieldLink RX3 17 "PuppetBarModel" "pull" "[I", .fieldLink RX3 21 "PuppetBarModel" "knots" "[I", .fieldLink RX3 24 "PuppetBarModel" "twist" "[J", .methodLink RX3 141 yX3_lesser, .static yX3_lesser, .initialized RX3, .code yX3_lesser cX3_lesser 4 (some .long), .methodLink RX3 97 yX3_place, .static yX3_place, .code yX3_place cX3_place 2 (some .long), .constantLong RX3 94 (9223372036854775807), .methodLink RX3 144 yX3_lesser4, .static yX3_lesser4, .code yX3_lesser4 cX3_lesser4 2 (some .int), .methodLink RX3 101 yX3_place4, .static yX3_place4, .code yX3_place4 cX3_place4 1 (some .int), .constant RX3 96 (2147483647)] ++ wsX30)
def wsX3_wholes_r1 : List Cond := [Cond.fieldLink RX3 17 "PuppetBarModel" "pull" "[I", Cond.fieldLink RX3 13 "PuppetBarModel" "length" "[J", Cond.methodLink RX3 121 yX3_thin, Cond.static yX3_thin, Cond.initialized RX3, Cond.code yX3_thin cX3_thin 1 (some .long), Cond.constantLong RX3 105 (4294967295), Cond.methodLink RX3 91 yX3_down, Cond.static yX3_down, Cond.code yX3_down cX3_down 7 (some .long), Cond.constantLong RX3 78 (-1), Cond.methodLink RX3 80 yX3_amount, Cond.static yX3_amount, Cond.code yX3_amount cX3_amount 3 (some .long), Cond.methodLink RX3 62 yX3_sign, Cond.static yX3_sign, Cond.code yX3_sign cX3_sign 1 (some .long), Cond.constantLong RX3 65 (-9223372036854775808), Cond.constantLong RX3 67 (2147483648), Cond.methodLink RX3 73 yX3_bias, Cond.static yX3_bias, Cond.code yX3_bias cX3_bias 1 (some .long), Cond.constantLong RX3 69 (1023), Cond.constantLong RX3 71 (127)]
def wsX3_wholes_r2 : List Cond := [Cond.methodLink RX3 84 yX3_one, Cond.static yX3_one, Cond.code yX3_one cX3_one 1 (some .long), Cond.methodLink RX3 87 yX3_isBelow, Cond.static yX3_isBelow, Cond.code yX3_isBelow cX3_isBelow 3 (some .boolean), Cond.methodLink RX3 147 yX3_up, Cond.static yX3_up, Cond.code yX3_up cX3_up 3 (some .long), Cond.methodLink RX3 150 yX3_near, Cond.static yX3_near, Cond.code yX3_near cX3_near 15 (some .long), Cond.constantLong RX3 76 (2)]
def wsX3_wholes : List Cond := .code yX3_wholes cX3_wholes 5 none :: ((wsX3_wholes_r1 ++ wsX3_wholes_r2) ++ wsX30)
def wsX3_lean_r1 : List Cond := [Cond.fieldLink RX3 17 "PuppetBarModel" "pull" "[I", Cond.fieldLink RX3 13 "PuppetBarModel" "length" "[J", Cond.fieldLink RX3 153 "PuppetBarModel" "tilt" "J", Cond.fieldLink RX3 157 "PuppetBarModel" "weight" "I", Cond.methodLink RX3 121 yX3_thin, Cond.static yX3_thin, Cond.initialized RX3, Cond.code yX3_thin cX3_thin 1 (some .long), Cond.constantLong RX3 105 (4294967295), Cond.methodLink RX3 80 yX3_amount, Cond.static yX3_amount, Cond.code yX3_amount cX3_amount 3 (some .long), Cond.constantLong RX3 78 (-1), Cond.methodLink RX3 62 yX3_sign, Cond.static yX3_sign, Cond.code yX3_sign cX3_sign 1 (some .long), Cond.constantLong RX3 65 (-9223372036854775808), Cond.constantLong RX3 67 (2147483648), Cond.methodLink RX3 84 yX3_one, Cond.static yX3_one, Cond.code yX3_one cX3_one 1 (some .long), Cond.methodLink RX3 73 yX3_bias, Cond.static yX3_bias, Cond.code yX3_bias cX3_bias 1 (some .long)]
def wsX3_lean_r2 : List Cond := [Cond.constantLong RX3 69 (1023), Cond.constantLong RX3 71 (127)]
def wsX3_lean : List Cond := .code yX3_lean cX3_lean 4 none :: ((wsX3_lean_r1 ++ wsX3_lean_r2) ++ wsX30)
def wsX3_mirror : List Cond := .code yX3_mirror cX3_mirror 3 none :: ([.fieldLink RX3 13 "PuppetBarModel" "length" "[J", .fieldLink RX3 17 "PuppetBarModel" "pull" "[I", .constant RX3 160 (-2147483648), .methodLink RX3 80 yX3_amount, .static yX3_amount, .initialized RX3, .code yX3_amount cX3_amount 3 (some .long), .constantLong RX3 78 (-1), .methodLink RX3 62 yX3_sign, .static yX3_sign, .code yX3_sign cX3_sign 1 (some .long), .constantLong RX3 65 (-9223372036854775808), .constantLong RX3 67 (2147483648), .methodLink RX3 130 yX3_amount4, .static yX3_amount4, .code yX3_amount4 cX3_amount4 1 (some .int), .constant RX3 96 (2147483647)] ++ wsX30)
def wsX3_stops : List Cond := .code yX3_stops cX3_stops 7 none :: ([.fieldLink RX3 13 "PuppetBarModel" "length" "[J", .fieldLink RX3 27 "PuppetBarModel" "low" "[J", .fieldLink RX3 30 "PuppetBarModel" "high" "[J", .methodLink RX3 141 yX3_lesser, .static yX3_lesser, .initialized RX3, .code yX3_lesser cX3_lesser 4 (some .long), .methodLink RX3 97 yX3_place, .static yX3_place, .code yX3_place cX3_place 2 (some .long), .constantLong RX3 94 (9223372036854775807), .methodLink RX3 133 yX3_greater, .static yX3_greater, .code yX3_greater cX3_greater 4 (some .long)] ++ wsX30)
def wsX3_gather_r1 : List Cond := [Cond.fieldLink RX3 21 "PuppetBarModel" "knots" "[I", Cond.fieldLink RX3 24 "PuppetBarModel" "twist" "[J", Cond.fieldLink RX3 153 "PuppetBarModel" "tilt" "J", Cond.fieldLink RX3 13 "PuppetBarModel" "length" "[J", Cond.fieldLink RX3 157 "PuppetBarModel" "weight" "I", Cond.fieldLink RX3 17 "PuppetBarModel" "pull" "[I", Cond.fieldLink RX3 161 "PuppetBarModel" "count" "I", Cond.fieldLink RX3 164 "PuppetBarModel" "turn" "J", Cond.methodLink RX3 80 yX3_amount, Cond.static yX3_amount, Cond.initialized RX3, Cond.code yX3_amount cX3_amount 3 (some .long), Cond.constantLong RX3 78 (-1), Cond.methodLink RX3 62 yX3_sign, Cond.static yX3_sign, Cond.code yX3_sign cX3_sign 1 (some .long), Cond.constantLong RX3 65 (-9223372036854775808), Cond.constantLong RX3 67 (2147483648), Cond.methodLink RX3 133 yX3_greater, Cond.static yX3_greater, Cond.code yX3_greater cX3_greater 4 (some .long), Cond.methodLink RX3 97 yX3_place, Cond.static yX3_place, Cond.code yX3_place cX3_place 2 (some .long)]
def wsX3_gather_r2 : List Cond := [Cond.constantLong RX3 94 (9223372036854775807), Cond.methodLink RX3 130 yX3_amount4, Cond.static yX3_amount4, Cond.code yX3_amount4 cX3_amount4 1 (some .int), Cond.constant RX3 96 (2147483647), Cond.methodLink RX3 144 yX3_lesser4, Cond.static yX3_lesser4, Cond.code yX3_lesser4 cX3_lesser4 2 (some .int), Cond.methodLink RX3 101 yX3_place4, Cond.static yX3_place4, Cond.code yX3_place4 cX3_place4 1 (some .int)]
def wsX3_gather : List Cond := .code yX3_gather cX3_gather 5 none :: ((wsX3_gather_r1 ++ wsX3_gather_r2) ++ wsX30)
def wsX3_trade : List Cond := .code yX3_trade cX3_trade 5 none :: ([])
def wsX3_trade4 : List Cond := .code yX3_trade4 cX3_trade4 4 none :: ([])
def wsX3_climb : List Cond := .code yX3_climb cX3_climb 2 none :: ([.fieldLink RX3 13 "PuppetBarModel" "length" "[J", .fieldLink RX3 21 "PuppetBarModel" "knots" "[I", .fieldLink RX3 17 "PuppetBarModel" "pull" "[I", .fieldLink RX3 24 "PuppetBarModel" "twist" "[J", .constantLong RX3 78 (-1), .methodLink RX3 80 yX3_amount, .static yX3_amount, .initialized RX3, .code yX3_amount cX3_amount 3 (some .long), .methodLink RX3 62 yX3_sign, .static yX3_sign, .code yX3_sign cX3_sign 1 (some .long), .constantLong RX3 65 (-9223372036854775808), .constantLong RX3 67 (2147483648), .methodLink RX3 130 yX3_amount4, .static yX3_amount4, .code yX3_amount4 cX3_amount4 1 (some .int), .constant RX3 96 (2147483647)] ++ wsX30)
def wsX3_does_r1 : List Cond := [Cond.fieldLink RX3 13 "PuppetBarModel" "length" "[J", Cond.fieldLink RX3 27 "PuppetBarModel" "low" "[J", Cond.fieldLink RX3 30 "PuppetBarModel" "high" "[J", Cond.fieldLink RX3 17 "PuppetBarModel" "pull" "[I", Cond.fieldLink RX3 21 "PuppetBarModel" "knots" "[I", Cond.fieldLink RX3 24 "PuppetBarModel" "twist" "[J", Cond.fieldLink RX3 153 "PuppetBarModel" "tilt" "J", Cond.fieldLink RX3 157 "PuppetBarModel" "weight" "I", Cond.fieldLink RX3 161 "PuppetBarModel" "count" "I", Cond.fieldLink RX3 164 "PuppetBarModel" "turn" "J", Cond.methodLink RX3 167 yX3_flip, Cond.instanceMethod yX3_flip, Cond.selects RX3 yX3_flip yX3_flip, Cond.initialized RX3, Cond.code yX3_flip cX3_flip 2 none, Cond.methodLink RX3 80 yX3_amount, Cond.static yX3_amount, Cond.code yX3_amount cX3_amount 3 (some .long), Cond.constantLong RX3 78 (-1), Cond.methodLink RX3 62 yX3_sign, Cond.static yX3_sign, Cond.code yX3_sign cX3_sign 1 (some .long), Cond.constantLong RX3 65 (-9223372036854775808), Cond.constantLong RX3 67 (2147483648)]
def wsX3_does_r2 : List Cond := [Cond.methodLink RX3 130 yX3_amount4, Cond.static yX3_amount4, Cond.code yX3_amount4 cX3_amount4 1 (some .int), Cond.constant RX3 96 (2147483647), Cond.methodLink RX3 170 yX3_stretch, Cond.instanceMethod yX3_stretch, Cond.selects RX3 yX3_stretch yX3_stretch, Cond.code yX3_stretch cX3_stretch 3 none, Cond.methodLink RX3 133 yX3_greater, Cond.static yX3_greater, Cond.code yX3_greater cX3_greater 4 (some .long), Cond.methodLink RX3 97 yX3_place, Cond.static yX3_place, Cond.code yX3_place cX3_place 2 (some .long), Cond.constantLong RX3 94 (9223372036854775807), Cond.methodLink RX3 137 yX3_greater4, Cond.static yX3_greater4, Cond.code yX3_greater4 cX3_greater4 2 (some .int), Cond.methodLink RX3 101 yX3_place4, Cond.static yX3_place4, Cond.code yX3_place4 cX3_place4 1 (some .int), Cond.methodLink RX3 174 yX3_ease, Cond.instanceMethod yX3_ease, Cond.selects RX3 yX3_ease yX3_ease]
def wsX3_does_r3 : List Cond := [Cond.code yX3_ease cX3_ease 3 none, Cond.methodLink RX3 141 yX3_lesser, Cond.static yX3_lesser, Cond.code yX3_lesser cX3_lesser 4 (some .long), Cond.methodLink RX3 144 yX3_lesser4, Cond.static yX3_lesser4, Cond.code yX3_lesser4 cX3_lesser4 2 (some .int), Cond.methodLink RX3 177 yX3_wholes, Cond.instanceMethod yX3_wholes, Cond.selects RX3 yX3_wholes yX3_wholes, Cond.code yX3_wholes cX3_wholes 5 none, Cond.methodLink RX3 121 yX3_thin, Cond.static yX3_thin, Cond.code yX3_thin cX3_thin 1 (some .long), Cond.constantLong RX3 105 (4294967295), Cond.methodLink RX3 91 yX3_down, Cond.static yX3_down, Cond.code yX3_down cX3_down 7 (some .long), Cond.methodLink RX3 73 yX3_bias, Cond.static yX3_bias, Cond.code yX3_bias cX3_bias 1 (some .long), Cond.constantLong RX3 69 (1023), Cond.constantLong RX3 71 (127), Cond.methodLink RX3 84 yX3_one]
def wsX3_does_r4 : List Cond := [Cond.static yX3_one, Cond.code yX3_one cX3_one 1 (some .long), Cond.methodLink RX3 87 yX3_isBelow, Cond.static yX3_isBelow, Cond.code yX3_isBelow cX3_isBelow 3 (some .boolean), Cond.methodLink RX3 147 yX3_up, Cond.static yX3_up, Cond.code yX3_up cX3_up 3 (some .long), Cond.methodLink RX3 150 yX3_near, Cond.static yX3_near, Cond.code yX3_near cX3_near 15 (some .long), Cond.constantLong RX3 76 (2), Cond.methodLink RX3 180 yX3_lean, Cond.instanceMethod yX3_lean, Cond.selects RX3 yX3_lean yX3_lean, Cond.code yX3_lean cX3_lean 4 none, Cond.methodLink RX3 183 yX3_mirror, Cond.instanceMethod yX3_mirror, Cond.selects RX3 yX3_mirror yX3_mirror, Cond.code yX3_mirror cX3_mirror 3 none, Cond.constant RX3 160 (-2147483648), Cond.methodLink RX3 186 yX3_stops, Cond.instanceMethod yX3_stops, Cond.selects RX3 yX3_stops yX3_stops]
def wsX3_does_r5 : List Cond := [Cond.code yX3_stops cX3_stops 7 none, Cond.methodLink RX3 189 yX3_gather, Cond.instanceMethod yX3_gather, Cond.selects RX3 yX3_gather yX3_gather, Cond.code yX3_gather cX3_gather 5 none, Cond.methodLink RX3 192 yX3_trade, Cond.static yX3_trade, Cond.code yX3_trade cX3_trade 5 none, Cond.methodLink RX3 196 yX3_trade4, Cond.static yX3_trade4, Cond.code yX3_trade4 cX3_trade4 4 none, Cond.methodLink RX3 200 yX3_climb, Cond.instanceMethod yX3_climb, Cond.selects RX3 yX3_climb yX3_climb, Cond.code yX3_climb cX3_climb 2 none, Cond.methodLink RX3 203 yX3_half, Cond.static yX3_half, Cond.code yX3_half cX3_half 7 (some .long), Cond.methodLink RX3 58 yX3_endless, Cond.static yX3_endless, Cond.code yX3_endless cX3_endless 1 (some .long), Cond.methodLink RX3 206 yX3_twice, Cond.static yX3_twice, Cond.code yX3_twice cX3_twice 5 (some .long)]
def wsX3_does : List Cond := .code yX3_does cX3_does 4 none :: ((wsX3_does_r1 ++ (wsX3_does_r2 ++ (wsX3_does_r3 ++ (wsX3_does_r4 ++ wsX3_does_r5)))) ++ wsX30)
def wsX3_moved_r1 : List Cond := [Cond.fieldLink RX3 39 "PuppetBarModel" "lengthWas" "[J", Cond.fieldLink RX3 13 "PuppetBarModel" "length" "[J", Cond.fieldLink RX3 42 "PuppetBarModel" "pullWas" "[I", Cond.fieldLink RX3 17 "PuppetBarModel" "pull" "[I", Cond.fieldLink RX3 45 "PuppetBarModel" "knotsWas" "[I", Cond.fieldLink RX3 21 "PuppetBarModel" "knots" "[I", Cond.fieldLink RX3 48 "PuppetBarModel" "twistWas" "[J", Cond.fieldLink RX3 24 "PuppetBarModel" "twist" "[J", Cond.methodLink RX3 209 yX3_does, Cond.instanceMethod yX3_does, Cond.selects RX3 yX3_does yX3_does, Cond.initialized RX3, Cond.code yX3_does cX3_does 4 none, Cond.fieldLink RX3 27 "PuppetBarModel" "low" "[J", Cond.fieldLink RX3 30 "PuppetBarModel" "high" "[J", Cond.fieldLink RX3 153 "PuppetBarModel" "tilt" "J", Cond.fieldLink RX3 157 "PuppetBarModel" "weight" "I", Cond.fieldLink RX3 161 "PuppetBarModel" "count" "I", Cond.fieldLink RX3 164 "PuppetBarModel" "turn" "J", Cond.methodLink RX3 167 yX3_flip, Cond.instanceMethod yX3_flip, Cond.selects RX3 yX3_flip yX3_flip, Cond.code yX3_flip cX3_flip 2 none, Cond.methodLink RX3 80 yX3_amount]
def wsX3_moved_r2 : List Cond := [Cond.static yX3_amount, Cond.code yX3_amount cX3_amount 3 (some .long), Cond.constantLong RX3 78 (-1), Cond.methodLink RX3 62 yX3_sign, Cond.static yX3_sign, Cond.code yX3_sign cX3_sign 1 (some .long), Cond.constantLong RX3 65 (-9223372036854775808), Cond.constantLong RX3 67 (2147483648), Cond.methodLink RX3 130 yX3_amount4, Cond.static yX3_amount4, Cond.code yX3_amount4 cX3_amount4 1 (some .int), Cond.constant RX3 96 (2147483647), Cond.methodLink RX3 170 yX3_stretch, Cond.instanceMethod yX3_stretch, Cond.selects RX3 yX3_stretch yX3_stretch, Cond.code yX3_stretch cX3_stretch 3 none, Cond.methodLink RX3 133 yX3_greater, Cond.static yX3_greater, Cond.code yX3_greater cX3_greater 4 (some .long), Cond.methodLink RX3 97 yX3_place, Cond.static yX3_place, Cond.code yX3_place cX3_place 2 (some .long), Cond.constantLong RX3 94 (9223372036854775807), Cond.methodLink RX3 137 yX3_greater4]
def wsX3_moved_r3 : List Cond := [Cond.static yX3_greater4, Cond.code yX3_greater4 cX3_greater4 2 (some .int), Cond.methodLink RX3 101 yX3_place4, Cond.static yX3_place4, Cond.code yX3_place4 cX3_place4 1 (some .int), Cond.methodLink RX3 174 yX3_ease, Cond.instanceMethod yX3_ease, Cond.selects RX3 yX3_ease yX3_ease, Cond.code yX3_ease cX3_ease 3 none, Cond.methodLink RX3 141 yX3_lesser, Cond.static yX3_lesser, Cond.code yX3_lesser cX3_lesser 4 (some .long), Cond.methodLink RX3 144 yX3_lesser4, Cond.static yX3_lesser4, Cond.code yX3_lesser4 cX3_lesser4 2 (some .int), Cond.methodLink RX3 177 yX3_wholes, Cond.instanceMethod yX3_wholes, Cond.selects RX3 yX3_wholes yX3_wholes, Cond.code yX3_wholes cX3_wholes 5 none, Cond.methodLink RX3 121 yX3_thin, Cond.static yX3_thin, Cond.code yX3_thin cX3_thin 1 (some .long), Cond.constantLong RX3 105 (4294967295), Cond.methodLink RX3 91 yX3_down]
def wsX3_moved_r4 : List Cond := [Cond.static yX3_down, Cond.code yX3_down cX3_down 7 (some .long), Cond.methodLink RX3 73 yX3_bias, Cond.static yX3_bias, Cond.code yX3_bias cX3_bias 1 (some .long), Cond.constantLong RX3 69 (1023), Cond.constantLong RX3 71 (127), Cond.methodLink RX3 84 yX3_one, Cond.static yX3_one, Cond.code yX3_one cX3_one 1 (some .long), Cond.methodLink RX3 87 yX3_isBelow, Cond.static yX3_isBelow, Cond.code yX3_isBelow cX3_isBelow 3 (some .boolean), Cond.methodLink RX3 147 yX3_up, Cond.static yX3_up, Cond.code yX3_up cX3_up 3 (some .long), Cond.methodLink RX3 150 yX3_near, Cond.static yX3_near, Cond.code yX3_near cX3_near 15 (some .long), Cond.constantLong RX3 76 (2), Cond.methodLink RX3 180 yX3_lean, Cond.instanceMethod yX3_lean, Cond.selects RX3 yX3_lean yX3_lean, Cond.code yX3_lean cX3_lean 4 none]
def wsX3_moved_r5 : List Cond := [Cond.methodLink RX3 183 yX3_mirror, Cond.instanceMethod yX3_mirror, Cond.selects RX3 yX3_mirror yX3_mirror, Cond.code yX3_mirror cX3_mirror 3 none, Cond.constant RX3 160 (-2147483648), Cond.methodLink RX3 186 yX3_stops, Cond.instanceMethod yX3_stops, Cond.selects RX3 yX3_stops yX3_stops, Cond.code yX3_stops cX3_stops 7 none, Cond.methodLink RX3 189 yX3_gather, Cond.instanceMethod yX3_gather, Cond.selects RX3 yX3_gather yX3_gather, Cond.code yX3_gather cX3_gather 5 none, Cond.methodLink RX3 192 yX3_trade, Cond.static yX3_trade, Cond.code yX3_trade cX3_trade 5 none, Cond.methodLink RX3 196 yX3_trade4, Cond.static yX3_trade4, Cond.code yX3_trade4 cX3_trade4 4 none, Cond.methodLink RX3 200 yX3_climb, Cond.instanceMethod yX3_climb, Cond.selects RX3 yX3_climb yX3_climb, Cond.code yX3_climb cX3_climb 2 none, Cond.methodLink RX3 203 yX3_half]
def wsX3_moved_r6 : List Cond := [Cond.static yX3_half, Cond.code yX3_half cX3_half 7 (some .long), Cond.methodLink RX3 58 yX3_endless, Cond.static yX3_endless, Cond.code yX3_endless cX3_endless 1 (some .long), Cond.methodLink RX3 206 yX3_twice, Cond.static yX3_twice, Cond.code yX3_twice cX3_twice 5 (some .long)]
def wsX3_moved : List Cond := .code yX3_moved cX3_moved 11 (some .int) :: ((wsX3_moved_r1 ++ (wsX3_moved_r2 ++ (wsX3_moved_r3 ++ (wsX3_moved_r4 ++ (wsX3_moved_r5 ++ wsX3_moved_r6))))) ++ wsX30)
def wsX3_move_r1 : List Cond := [Cond.fieldLink RX3 114 "PuppetBarModel" "refusal" "I", Cond.fieldLink RX3 51 "PuppetBarModel" "alone" "[I", Cond.methodLink RX3 213 yX3_lackOf, Cond.instanceMethod yX3_lackOf, Cond.selects RX3 yX3_lackOf yX3_lackOf, Cond.initialized RX3, Cond.code yX3_lackOf cX3_lackOf 4 (some .int), Cond.methodLink RX3 111 yX3_lack, Cond.instanceMethod yX3_lack, Cond.selects RX3 yX3_lack yX3_lack, Cond.code yX3_lack cX3_lack 2 (some .int), Cond.fieldLink RX3 7 "PuppetBarModel" "isCut" "[Z", Cond.methodLink RX3 107 yX3_isThread, Cond.static yX3_isThread, Cond.code yX3_isThread cX3_isThread 1 (some .boolean), Cond.methodLink RX3 127 yX3_wantsOther, Cond.static yX3_wantsOther, Cond.code yX3_wantsOther cX3_wantsOther 1 (some .boolean), Cond.methodLink RX3 217 yX3_moved, Cond.instanceMethod yX3_moved, Cond.selects RX3 yX3_moved yX3_moved, Cond.code yX3_moved cX3_moved 11 (some .int), Cond.fieldLink RX3 39 "PuppetBarModel" "lengthWas" "[J", Cond.fieldLink RX3 13 "PuppetBarModel" "length" "[J"]
def wsX3_move_r2 : List Cond := [Cond.fieldLink RX3 42 "PuppetBarModel" "pullWas" "[I", Cond.fieldLink RX3 17 "PuppetBarModel" "pull" "[I", Cond.fieldLink RX3 45 "PuppetBarModel" "knotsWas" "[I", Cond.fieldLink RX3 21 "PuppetBarModel" "knots" "[I", Cond.fieldLink RX3 48 "PuppetBarModel" "twistWas" "[J", Cond.fieldLink RX3 24 "PuppetBarModel" "twist" "[J", Cond.methodLink RX3 209 yX3_does, Cond.instanceMethod yX3_does, Cond.selects RX3 yX3_does yX3_does, Cond.code yX3_does cX3_does 4 none, Cond.fieldLink RX3 27 "PuppetBarModel" "low" "[J", Cond.fieldLink RX3 30 "PuppetBarModel" "high" "[J", Cond.fieldLink RX3 153 "PuppetBarModel" "tilt" "J", Cond.fieldLink RX3 157 "PuppetBarModel" "weight" "I", Cond.fieldLink RX3 161 "PuppetBarModel" "count" "I", Cond.fieldLink RX3 164 "PuppetBarModel" "turn" "J", Cond.methodLink RX3 167 yX3_flip, Cond.instanceMethod yX3_flip, Cond.selects RX3 yX3_flip yX3_flip, Cond.code yX3_flip cX3_flip 2 none, Cond.methodLink RX3 80 yX3_amount, Cond.static yX3_amount, Cond.code yX3_amount cX3_amount 3 (some .long), Cond.constantLong RX3 78 (-1)]
def wsX3_move_r3 : List Cond := [Cond.methodLink RX3 62 yX3_sign, Cond.static yX3_sign, Cond.code yX3_sign cX3_sign 1 (some .long), Cond.constantLong RX3 65 (-9223372036854775808), Cond.constantLong RX3 67 (2147483648), Cond.methodLink RX3 130 yX3_amount4, Cond.static yX3_amount4, Cond.code yX3_amount4 cX3_amount4 1 (some .int), Cond.constant RX3 96 (2147483647), Cond.methodLink RX3 170 yX3_stretch, Cond.instanceMethod yX3_stretch, Cond.selects RX3 yX3_stretch yX3_stretch, Cond.code yX3_stretch cX3_stretch 3 none, Cond.methodLink RX3 133 yX3_greater, Cond.static yX3_greater, Cond.code yX3_greater cX3_greater 4 (some .long), Cond.methodLink RX3 97 yX3_place, Cond.static yX3_place, Cond.code yX3_place cX3_place 2 (some .long), Cond.constantLong RX3 94 (9223372036854775807), Cond.methodLink RX3 137 yX3_greater4, Cond.static yX3_greater4, Cond.code yX3_greater4 cX3_greater4 2 (some .int), Cond.methodLink RX3 101 yX3_place4]
def wsX3_move_r4 : List Cond := [Cond.static yX3_place4, Cond.code yX3_place4 cX3_place4 1 (some .int), Cond.methodLink RX3 174 yX3_ease, Cond.instanceMethod yX3_ease, Cond.selects RX3 yX3_ease yX3_ease, Cond.code yX3_ease cX3_ease 3 none, Cond.methodLink RX3 141 yX3_lesser, Cond.static yX3_lesser, Cond.code yX3_lesser cX3_lesser 4 (some .long), Cond.methodLink RX3 144 yX3_lesser4, Cond.static yX3_lesser4, Cond.code yX3_lesser4 cX3_lesser4 2 (some .int), Cond.methodLink RX3 177 yX3_wholes, Cond.instanceMethod yX3_wholes, Cond.selects RX3 yX3_wholes yX3_wholes, Cond.code yX3_wholes cX3_wholes 5 none, Cond.methodLink RX3 121 yX3_thin, Cond.static yX3_thin, Cond.code yX3_thin cX3_thin 1 (some .long), Cond.constantLong RX3 105 (4294967295), Cond.methodLink RX3 91 yX3_down, Cond.static yX3_down, Cond.code yX3_down cX3_down 7 (some .long), Cond.methodLink RX3 73 yX3_bias]
def wsX3_move_r5 : List Cond := [Cond.static yX3_bias, Cond.code yX3_bias cX3_bias 1 (some .long), Cond.constantLong RX3 69 (1023), Cond.constantLong RX3 71 (127), Cond.methodLink RX3 84 yX3_one, Cond.static yX3_one, Cond.code yX3_one cX3_one 1 (some .long), Cond.methodLink RX3 87 yX3_isBelow, Cond.static yX3_isBelow, Cond.code yX3_isBelow cX3_isBelow 3 (some .boolean), Cond.methodLink RX3 147 yX3_up, Cond.static yX3_up, Cond.code yX3_up cX3_up 3 (some .long), Cond.methodLink RX3 150 yX3_near, Cond.static yX3_near, Cond.code yX3_near cX3_near 15 (some .long), Cond.constantLong RX3 76 (2), Cond.methodLink RX3 180 yX3_lean, Cond.instanceMethod yX3_lean, Cond.selects RX3 yX3_lean yX3_lean, Cond.code yX3_lean cX3_lean 4 none, Cond.methodLink RX3 183 yX3_mirror, Cond.instanceMethod yX3_mirror, Cond.selects RX3 yX3_mirror yX3_mirror]
def wsX3_move_r6 : List Cond := [Cond.code yX3_mirror cX3_mirror 3 none, Cond.constant RX3 160 (-2147483648), Cond.methodLink RX3 186 yX3_stops, Cond.instanceMethod yX3_stops, Cond.selects RX3 yX3_stops yX3_stops, Cond.code yX3_stops cX3_stops 7 none, Cond.methodLink RX3 189 yX3_gather, Cond.instanceMethod yX3_gather, Cond.selects RX3 yX3_gather yX3_gather, Cond.code yX3_gather cX3_gather 5 none, Cond.methodLink RX3 192 yX3_trade, Cond.static yX3_trade, Cond.code yX3_trade cX3_trade 5 none, Cond.methodLink RX3 196 yX3_trade4, Cond.static yX3_trade4, Cond.code yX3_trade4 cX3_trade4 4 none, Cond.methodLink RX3 200 yX3_climb, Cond.instanceMethod yX3_climb, Cond.selects RX3 yX3_climb yX3_climb, Cond.code yX3_climb cX3_climb 2 none, Cond.methodLink RX3 203 yX3_half, Cond.static yX3_half, Cond.code yX3_half cX3_half 7 (some .long), Cond.methodLink RX3 58 yX3_endless]
def wsX3_move_r7 : List Cond := [Cond.static yX3_endless, Cond.code yX3_endless cX3_endless 1 (some .long), Cond.methodLink RX3 206 yX3_twice, Cond.static yX3_twice, Cond.code yX3_twice cX3_twice 5 (some .long)]
def wsX3_move : List Cond := .code yX3_move cX3_move 4 (some .int) :: ((wsX3_move_r1 ++ (wsX3_move_r2 ++ (wsX3_move_r3 ++ (wsX3_move_r4 ++ (wsX3_move_r5 ++ (wsX3_move_r6 ++ wsX3_move_r7)))))) ++ wsX30)
def wsX3_step : List Cond := .code yX3_step cX3_step 4 (some .int) :: ([.fieldLink RX3 221 "PuppetBarModel" "steps" "I", .fieldLink RX3 33 "PuppetBarModel" "figure" "[I"] ++ wsX30)
def wsX3_forget : List Cond := .code yX3_forget cX3_forget 2 (some .int) :: ([.fieldLink RX3 221 "PuppetBarModel" "steps" "I"] ++ wsX30)
def wsX3_dance_r1 : List Cond := [Cond.fieldLink RX3 114 "PuppetBarModel" "refusal" "I", Cond.fieldLink RX3 224 "PuppetBarModel" "endedAt" "I", Cond.fieldLink RX3 36 "PuppetBarModel" "changed" "[I", Cond.fieldLink RX3 221 "PuppetBarModel" "steps" "I", Cond.fieldLink RX3 33 "PuppetBarModel" "figure" "[I", Cond.methodLink RX3 213 yX3_lackOf, Cond.instanceMethod yX3_lackOf, Cond.selects RX3 yX3_lackOf yX3_lackOf, Cond.initialized RX3, Cond.code yX3_lackOf cX3_lackOf 4 (some .int), Cond.methodLink RX3 111 yX3_lack, Cond.instanceMethod yX3_lack, Cond.selects RX3 yX3_lack yX3_lack, Cond.code yX3_lack cX3_lack 2 (some .int), Cond.fieldLink RX3 7 "PuppetBarModel" "isCut" "[Z", Cond.methodLink RX3 107 yX3_isThread, Cond.static yX3_isThread, Cond.code yX3_isThread cX3_isThread 1 (some .boolean), Cond.methodLink RX3 127 yX3_wantsOther, Cond.static yX3_wantsOther, Cond.code yX3_wantsOther cX3_wantsOther 1 (some .boolean), Cond.methodLink RX3 217 yX3_moved, Cond.instanceMethod yX3_moved, Cond.selects RX3 yX3_moved yX3_moved]
def wsX3_dance_r2 : List Cond := [Cond.code yX3_moved cX3_moved 11 (some .int), Cond.fieldLink RX3 39 "PuppetBarModel" "lengthWas" "[J", Cond.fieldLink RX3 13 "PuppetBarModel" "length" "[J", Cond.fieldLink RX3 42 "PuppetBarModel" "pullWas" "[I", Cond.fieldLink RX3 17 "PuppetBarModel" "pull" "[I", Cond.fieldLink RX3 45 "PuppetBarModel" "knotsWas" "[I", Cond.fieldLink RX3 21 "PuppetBarModel" "knots" "[I", Cond.fieldLink RX3 48 "PuppetBarModel" "twistWas" "[J", Cond.fieldLink RX3 24 "PuppetBarModel" "twist" "[J", Cond.methodLink RX3 209 yX3_does, Cond.instanceMethod yX3_does, Cond.selects RX3 yX3_does yX3_does, Cond.code yX3_does cX3_does 4 none, Cond.fieldLink RX3 27 "PuppetBarModel" "low" "[J", Cond.fieldLink RX3 30 "PuppetBarModel" "high" "[J", Cond.fieldLink RX3 153 "PuppetBarModel" "tilt" "J", Cond.fieldLink RX3 157 "PuppetBarModel" "weight" "I", Cond.fieldLink RX3 161 "PuppetBarModel" "count" "I", Cond.fieldLink RX3 164 "PuppetBarModel" "turn" "J", Cond.methodLink RX3 167 yX3_flip, Cond.instanceMethod yX3_flip, Cond.selects RX3 yX3_flip yX3_flip, Cond.code yX3_flip cX3_flip 2 none, Cond.methodLink RX3 80 yX3_amount]
def wsX3_dance_r3 : List Cond := [Cond.static yX3_amount, Cond.code yX3_amount cX3_amount 3 (some .long), Cond.constantLong RX3 78 (-1), Cond.methodLink RX3 62 yX3_sign, Cond.static yX3_sign, Cond.code yX3_sign cX3_sign 1 (some .long), Cond.constantLong RX3 65 (-9223372036854775808), Cond.constantLong RX3 67 (2147483648), Cond.methodLink RX3 130 yX3_amount4, Cond.static yX3_amount4, Cond.code yX3_amount4 cX3_amount4 1 (some .int), Cond.constant RX3 96 (2147483647), Cond.methodLink RX3 170 yX3_stretch, Cond.instanceMethod yX3_stretch, Cond.selects RX3 yX3_stretch yX3_stretch, Cond.code yX3_stretch cX3_stretch 3 none, Cond.methodLink RX3 133 yX3_greater, Cond.static yX3_greater, Cond.code yX3_greater cX3_greater 4 (some .long), Cond.methodLink RX3 97 yX3_place, Cond.static yX3_place, Cond.code yX3_place cX3_place 2 (some .long), Cond.constantLong RX3 94 (9223372036854775807), Cond.methodLink RX3 137 yX3_greater4]
def wsX3_dance_r4 : List Cond := [Cond.static yX3_greater4, Cond.code yX3_greater4 cX3_greater4 2 (some .int), Cond.methodLink RX3 101 yX3_place4, Cond.static yX3_place4, Cond.code yX3_place4 cX3_place4 1 (some .int), Cond.methodLink RX3 174 yX3_ease, Cond.instanceMethod yX3_ease, Cond.selects RX3 yX3_ease yX3_ease, Cond.code yX3_ease cX3_ease 3 none, Cond.methodLink RX3 141 yX3_lesser, Cond.static yX3_lesser, Cond.code yX3_lesser cX3_lesser 4 (some .long), Cond.methodLink RX3 144 yX3_lesser4, Cond.static yX3_lesser4, Cond.code yX3_lesser4 cX3_lesser4 2 (some .int), Cond.methodLink RX3 177 yX3_wholes, Cond.instanceMethod yX3_wholes, Cond.selects RX3 yX3_wholes yX3_wholes, Cond.code yX3_wholes cX3_wholes 5 none, Cond.methodLink RX3 121 yX3_thin, Cond.static yX3_thin, Cond.code yX3_thin cX3_thin 1 (some .long), Cond.constantLong RX3 105 (4294967295), Cond.methodLink RX3 91 yX3_down]
def wsX3_dance_r5 : List Cond := [Cond.static yX3_down, Cond.code yX3_down cX3_down 7 (some .long), Cond.methodLink RX3 73 yX3_bias, Cond.static yX3_bias, Cond.code yX3_bias cX3_bias 1 (some .long), Cond.constantLong RX3 69 (1023), Cond.constantLong RX3 71 (127), Cond.methodLink RX3 84 yX3_one, Cond.static yX3_one, Cond.code yX3_one cX3_one 1 (some .long), Cond.methodLink RX3 87 yX3_isBelow, Cond.static yX3_isBelow, Cond.code yX3_isBelow cX3_isBelow 3 (some .boolean), Cond.methodLink RX3 147 yX3_up, Cond.static yX3_up, Cond.code yX3_up cX3_up 3 (some .long), Cond.methodLink RX3 150 yX3_near, Cond.static yX3_near, Cond.code yX3_near cX3_near 15 (some .long), Cond.constantLong RX3 76 (2), Cond.methodLink RX3 180 yX3_lean, Cond.instanceMethod yX3_lean, Cond.selects RX3 yX3_lean yX3_lean, Cond.code yX3_lean cX3_lean 4 none]
def wsX3_dance_r6 : List Cond := [Cond.methodLink RX3 183 yX3_mirror, Cond.instanceMethod yX3_mirror, Cond.selects RX3 yX3_mirror yX3_mirror, Cond.code yX3_mirror cX3_mirror 3 none, Cond.constant RX3 160 (-2147483648), Cond.methodLink RX3 186 yX3_stops, Cond.instanceMethod yX3_stops, Cond.selects RX3 yX3_stops yX3_stops, Cond.code yX3_stops cX3_stops 7 none, Cond.methodLink RX3 189 yX3_gather, Cond.instanceMethod yX3_gather, Cond.selects RX3 yX3_gather yX3_gather, Cond.code yX3_gather cX3_gather 5 none, Cond.methodLink RX3 192 yX3_trade, Cond.static yX3_trade, Cond.code yX3_trade cX3_trade 5 none, Cond.methodLink RX3 196 yX3_trade4, Cond.static yX3_trade4, Cond.code yX3_trade4 cX3_trade4 4 none, Cond.methodLink RX3 200 yX3_climb, Cond.instanceMethod yX3_climb, Cond.selects RX3 yX3_climb yX3_climb, Cond.code yX3_climb cX3_climb 2 none, Cond.methodLink RX3 203 yX3_half]
def wsX3_dance_r7 : List Cond := [Cond.static yX3_half, Cond.code yX3_half cX3_half 7 (some .long), Cond.methodLink RX3 58 yX3_endless, Cond.static yX3_endless, Cond.code yX3_endless cX3_endless 1 (some .long), Cond.methodLink RX3 206 yX3_twice, Cond.static yX3_twice, Cond.code yX3_twice cX3_twice 5 (some .long)]
def wsX3_dance : List Cond := .code yX3_dance cX3_dance 6 (some .int) :: ((wsX3_dance_r1 ++ (wsX3_dance_r2 ++ (wsX3_dance_r3 ++ (wsX3_dance_r4 ++ (wsX3_dance_r5 ++ (wsX3_dance_r6 ++ wsX3_dance_r7)))))) ++ wsX30)
def wsX3_danced : List Cond := .code yX3_danced cX3_danced 2 (some .int) :: ([.fieldLink RX3 224 "PuppetBarModel" "endedAt" "I", .fieldLink RX3 36 "PuppetBarModel" "changed" "[I"] ++ wsX30)
def wsX3_bar : List Cond := .code yX3_bar cX3_bar 2 (some .long) :: ([.fieldLink RX3 153 "PuppetBarModel" "tilt" "J", .fieldLink RX3 157 "PuppetBarModel" "weight" "I", .fieldLink RX3 161 "PuppetBarModel" "count" "I", .fieldLink RX3 164 "PuppetBarModel" "turn" "J"] ++ wsX30)
def wsX3_isAhead : List Cond := .code yX3_isAhead cX3_isAhead 3 (some .boolean) :: ([.fieldLink RX3 7 "PuppetBarModel" "isCut" "[Z", .fieldLink RX3 13 "PuppetBarModel" "length" "[J", .fieldLink RX3 17 "PuppetBarModel" "pull" "[I", .fieldLink RX3 21 "PuppetBarModel" "knots" "[I", .fieldLink RX3 24 "PuppetBarModel" "twist" "[J", .methodLink RX3 97 yX3_place, .static yX3_place, .initialized RX3, .code yX3_place cX3_place 2 (some .long), .constantLong RX3 94 (9223372036854775807), .methodLink RX3 101 yX3_place4, .static yX3_place4, .code yX3_place4 cX3_place4 1 (some .int), .constant RX3 96 (2147483647)] ++ wsX30)
def wsX3_order : List Cond := .code yX3_order cX3_order 5 (some .int) :: ([.methodLink RX3 227 yX3_isAhead, .instanceMethod yX3_isAhead, .selects RX3 yX3_isAhead yX3_isAhead, .initialized RX3, .code yX3_isAhead cX3_isAhead 3 (some .boolean), .fieldLink RX3 7 "PuppetBarModel" "isCut" "[Z", .fieldLink RX3 13 "PuppetBarModel" "length" "[J", .fieldLink RX3 17 "PuppetBarModel" "pull" "[I", .fieldLink RX3 21 "PuppetBarModel" "knots" "[I", .fieldLink RX3 24 "PuppetBarModel" "twist" "[J", .methodLink RX3 97 yX3_place, .static yX3_place, .code yX3_place cX3_place 2 (some .long), .constantLong RX3 94 (9223372036854775807), .methodLink RX3 101 yX3_place4, .static yX3_place4, .code yX3_place4 cX3_place4 1 (some .int), .constant RX3 96 (2147483647)] ++ wsX30)
def wsJ9_abs_0f7a4 : List Cond := .code yJ9_abs_0f7a4 cJ9_abs_0f7a4 1 (some .int) :: ([])
def wsJ9_abs_067f4 : List Cond := .code yJ9_abs_067f4 cJ9_abs_067f4 2 (some .long) :: ([])
def wsJ9_max_7cf53 : List Cond := .code yJ9_max_7cf53 cJ9_max_7cf53 2 (some .int) :: ([])
def wsJ9_max_f86c9 : List Cond := .code yJ9_max_f86c9 cJ9_max_f86c9 4 (some .long) :: ([])
def wsJ9_min_7cf53 : List Cond := .code yJ9_min_7cf53 cJ9_min_7cf53 2 (some .int) :: ([])
def wsJ9_min_f86c9 : List Cond := .code yJ9_min_f86c9 cJ9_min_f86c9 4 (some .long) :: ([])
def wsL_law_r1 : List Cond := [Cond.classLink RL 7 RX2, Cond.instantiable RX2 15, Cond.initialized RX2, Cond.classLink RL 10 RX3, Cond.instantiable RX3 21, Cond.initialized RX3, Cond.constantLong RL 13 (4294967295), Cond.methodLink RL 9 yX2_init, Cond.instanceMethod yX2_init, Cond.code yX2_init cX2_init 2 none, Cond.methodLink RX2 1 objectInit, Cond.instanceMethod objectInit, Cond.code objectInit ⟨#[0xb1]⟩ 1 none, Cond.arrayClass .long, Cond.fieldLink RX2 9 "PuppetBar" "lengths" "[J", Cond.arrayClass .int, Cond.fieldLink RX2 13 "PuppetBar" "pulls" "[I", Cond.fieldLink RX2 17 "PuppetBar" "knots" "[I", Cond.fieldLink RX2 20 "PuppetBar" "twists" "[J", Cond.fieldLink RX2 23 "PuppetBar" "lows" "[J", Cond.fieldLink RX2 26 "PuppetBar" "highs" "[J", Cond.arrayClass .boolean, Cond.fieldLink RX2 29 "PuppetBar" "isCut" "[Z", Cond.fieldLink RX2 33 "PuppetBar" "tilt" "J"]
def wsL_law_r2 : List Cond := [Cond.fieldLink RX2 37 "PuppetBar" "weight" "I", Cond.fieldLink RX2 41 "PuppetBar" "count" "I", Cond.fieldLink RX2 44 "PuppetBar" "turn" "J", Cond.classLink RX2 47 RX0, Cond.instantiable RX0 4, Cond.initialized RX0, Cond.fieldLink RX2 50 "PuppetBar" "figure" "LPuppetBar$Figure;", Cond.fieldLink RX2 54 "PuppetBar" "refusal" "I", Cond.fieldLink RX2 57 "PuppetBar" "changes" "[I", Cond.fieldLink RX2 60 "PuppetBar" "latestDance" "[I", Cond.instanceMethod yX0_init, Cond.code yX0_init cX0_init 1 none, Cond.methodLink RX0 3 objectInit, Cond.fieldLink RX0 9 "PuppetBar$Figure" "moves" "[I", Cond.fieldLink RX0 15 "PuppetBar$Figure" "threads" "[I", Cond.fieldLink RX0 18 "PuppetBar$Figure" "others" "[I", Cond.fieldLink RX0 21 "PuppetBar$Figure" "size" "I", Cond.methodLink RX2 63 yX2_stringAnew, Cond.instanceMethod yX2_stringAnew, Cond.selects RX2 yX2_stringAnew yX2_stringAnew, Cond.code yX2_stringAnew cX2_stringAnew 2 none, Cond.constantLong RX2 143 (-4503599627370496), Cond.constantLong RX2 133 (9218868437227405312), Cond.methodLink RL 12 yX3_init]
def wsL_law_r3 : List Cond := [Cond.instanceMethod yX3_init, Cond.code yX3_init cX3_init 2 none, Cond.methodLink RX3 1 objectInit, Cond.fieldLink RX3 7 "PuppetBarModel" "isCut" "[Z", Cond.fieldLink RX3 13 "PuppetBarModel" "length" "[J", Cond.fieldLink RX3 17 "PuppetBarModel" "pull" "[I", Cond.fieldLink RX3 21 "PuppetBarModel" "knots" "[I", Cond.fieldLink RX3 24 "PuppetBarModel" "twist" "[J", Cond.fieldLink RX3 27 "PuppetBarModel" "low" "[J", Cond.fieldLink RX3 30 "PuppetBarModel" "high" "[J", Cond.fieldLink RX3 33 "PuppetBarModel" "figure" "[I", Cond.fieldLink RX3 36 "PuppetBarModel" "changed" "[I", Cond.fieldLink RX3 39 "PuppetBarModel" "lengthWas" "[J", Cond.fieldLink RX3 42 "PuppetBarModel" "pullWas" "[I", Cond.fieldLink RX3 45 "PuppetBarModel" "knotsWas" "[I", Cond.fieldLink RX3 48 "PuppetBarModel" "twistWas" "[J", Cond.fieldLink RX3 51 "PuppetBarModel" "alone" "[I", Cond.methodLink RX3 54 yX3_begin, Cond.instanceMethod yX3_begin, Cond.selects RX3 yX3_begin yX3_begin, Cond.code yX3_begin cX3_begin 2 none, Cond.methodLink RX3 58 yX3_endless, Cond.static yX3_endless, Cond.code yX3_endless cX3_endless 1 (some .long)]
def wsL_law_r4 : List Cond := [Cond.constantLong RX3 76 (2), Cond.methodLink RX3 73 yX3_bias, Cond.static yX3_bias, Cond.code yX3_bias cX3_bias 1 (some .long), Cond.constantLong RX3 69 (1023), Cond.constantLong RX3 71 (127), Cond.methodLink RX3 62 yX3_sign, Cond.static yX3_sign, Cond.code yX3_sign cX3_sign 1 (some .long), Cond.constantLong RX3 65 (-9223372036854775808), Cond.constantLong RX3 67 (2147483648), Cond.methodLink RL 15 yX2_set, Cond.instanceMethod yX2_set, Cond.selects RX2 yX2_set yX2_set, Cond.code yX2_set cX2_set 5 (some .int), Cond.methodLink RX2 67 yX2_refusalOfSetting, Cond.instanceMethod yX2_refusalOfSetting, Cond.selects RX2 yX2_refusalOfSetting yX2_refusalOfSetting, Cond.code yX2_refusalOfSetting cX2_refusalOfSetting 6 (some .int), Cond.methodLink RX2 75 yX2_refusalOfPart, Cond.instanceMethod yX2_refusalOfPart, Cond.selects RX2 yX2_refusalOfPart yX2_refusalOfPart, Cond.code yX2_refusalOfPart cX2_refusalOfPart 3 (some .int), Cond.methodLink RX2 83 yX2_refusalOfThread]
def wsL_law_r5 : List Cond := [Cond.instanceMethod yX2_refusalOfThread, Cond.selects RX2 yX2_refusalOfThread yX2_refusalOfThread, Cond.code yX2_refusalOfThread cX2_refusalOfThread 2 (some .int), Cond.methodLink RX2 123 yX2_isNumber, Cond.static yX2_isNumber, Cond.code yX2_isNumber cX2_isNumber 3 (some .boolean), Cond.constant RX2 138 (2139095040), Cond.methodLink RX2 127 yX1_amount, Cond.static yX1_amount, Cond.initialized RX1, Cond.code yX1_amount cX1_amount 2 (some .long), Cond.constantLong RX1 9 (9223372036854775807), Cond.methodLink RX2 135 yX1_shortAmount, Cond.static yX1_shortAmount, Cond.code yX1_shortAmount cX1_shortAmount 1 (some .int), Cond.constant RX1 11 (2147483647), Cond.methodLink RX2 71 yX2_write, Cond.instanceMethod yX2_write, Cond.selects RX2 yX2_write yX2_write, Cond.code yX2_write cX2_write 5 none, Cond.methodLink RL 19 yX3_set, Cond.instanceMethod yX3_set, Cond.selects RX3 yX3_set yX3_set, Cond.code yX3_set cX3_set 5 (some .int)]
def wsL_law_r6 : List Cond := [Cond.fieldLink RX3 114 "PuppetBarModel" "refusal" "I", Cond.methodLink RX3 111 yX3_lack, Cond.instanceMethod yX3_lack, Cond.selects RX3 yX3_lack yX3_lack, Cond.code yX3_lack cX3_lack 2 (some .int), Cond.methodLink RX3 107 yX3_isThread, Cond.static yX3_isThread, Cond.code yX3_isThread cX3_isThread 1 (some .boolean), Cond.methodLink RX3 118 yX3_isReal, Cond.static yX3_isReal, Cond.code yX3_isReal cX3_isReal 1 (some .boolean), Cond.methodLink RX3 121 yX3_thin, Cond.static yX3_thin, Cond.code yX3_thin cX3_thin 1 (some .long), Cond.constantLong RX3 105 (4294967295), Cond.methodLink RX3 124 yX3_isNumber, Cond.static yX3_isNumber, Cond.code yX3_isNumber cX3_isNumber 3 (some .boolean), Cond.methodLink RX3 80 yX3_amount, Cond.static yX3_amount, Cond.code yX3_amount cX3_amount 3 (some .long), Cond.constantLong RX3 78 (-1), Cond.methodLink RL 20 yX2_get, Cond.instanceMethod yX2_get]
def wsL_law_r7 : List Cond := [Cond.selects RX2 yX2_get yX2_get, Cond.code yX2_get cX2_get 3 (some .long), Cond.methodLink RX2 79 yX2_read, Cond.instanceMethod yX2_read, Cond.selects RX2 yX2_read yX2_read, Cond.code yX2_read cX2_read 3 (some .long), Cond.methodLink RL 24 yX3_get, Cond.instanceMethod yX3_get, Cond.selects RX3 yX3_get yX3_get, Cond.code yX3_get cX3_get 3 (some .long), Cond.methodLink RL 25 yX2_refused, Cond.instanceMethod yX2_refused, Cond.selects RX2 yX2_refused yX2_refused, Cond.code yX2_refused cX2_refused 1 (some .int), Cond.methodLink RL 29 yX3_refused, Cond.instanceMethod yX3_refused, Cond.selects RX3 yX3_refused yX3_refused, Cond.code yX3_refused cX3_refused 1 (some .int), Cond.methodLink RL 30 yX2_cut, Cond.instanceMethod yX2_cut, Cond.selects RX2 yX2_cut yX2_cut, Cond.code yX2_cut cX2_cut 2 (some .int), Cond.methodLink RL 34 yX3_cut, Cond.instanceMethod yX3_cut]
def wsL_law_r8 : List Cond := [Cond.selects RX3 yX3_cut yX3_cut, Cond.code yX3_cut cX3_cut 2 (some .int), Cond.methodLink RL 35 yX2_string, Cond.instanceMethod yX2_string, Cond.selects RX2 yX2_string yX2_string, Cond.code yX2_string cX2_string 2 (some .int), Cond.methodLink RX2 87 yX2_refusalOfStringing, Cond.instanceMethod yX2_refusalOfStringing, Cond.selects RX2 yX2_refusalOfStringing yX2_refusalOfStringing, Cond.code yX2_refusalOfStringing cX2_refusalOfStringing 3 (some .int), Cond.methodLink RL 38 yX3_string, Cond.instanceMethod yX3_string, Cond.selects RX3 yX3_string yX3_string, Cond.code yX3_string cX3_string 2 (some .int), Cond.methodLink RL 39 yX2_move, Cond.instanceMethod yX2_move, Cond.selects RX2 yX2_move yX2_move, Cond.code yX2_move cX2_move 4 (some .int), Cond.methodLink RX2 90 yX2_refusalOfMove, Cond.instanceMethod yX2_refusalOfMove, Cond.selects RX2 yX2_refusalOfMove yX2_refusalOfMove, Cond.code yX2_refusalOfMove cX2_refusalOfMove 6 (some .int), Cond.methodLink RX2 139 yX2_wantsOther, Cond.static yX2_wantsOther]
def wsL_law_r9 : List Cond := [Cond.code yX2_wantsOther cX2_wantsOther 1 (some .boolean), Cond.methodLink RX2 94 yX2_clearChanges, Cond.instanceMethod yX2_clearChanges, Cond.selects RX2 yX2_clearChanges yX2_clearChanges, Cond.code yX2_clearChanges cX2_clearChanges 2 none, Cond.methodLink RX2 97 yX2_perform, Cond.instanceMethod yX2_perform, Cond.selects RX2 yX2_perform yX2_perform, Cond.code yX2_perform cX2_perform 4 none, Cond.methodLink RX2 145 yX2_flip, Cond.instanceMethod yX2_flip, Cond.selects RX2 yX2_flip yX2_flip, Cond.code yX2_flip cX2_flip 2 none, Cond.methodLink RX2 199 Lib.Math.abs.name, Cond.static Lib.Math.abs.name, Cond.initialized "java/lang/Math", Cond.code Lib.Math.abs.name Lib.Math.abs.code 1 (some .int), Cond.methodLink RX2 207 Lib.MathLoose.abs_long.x, Cond.static Lib.MathLoose.abs_long.x, Cond.code Lib.MathLoose.abs_long.x Lib.MathLoose.abs_long.code 2 (some .long), Cond.methodLink RX2 192 yX2_changeLength, Cond.instanceMethod yX2_changeLength, Cond.selects RX2 yX2_changeLength yX2_changeLength, Cond.code yX2_changeLength cX2_changeLength 4 none]
def wsL_law_r10 : List Cond := [Cond.methodLink RX2 196 yX2_changePull, Cond.instanceMethod yX2_changePull, Cond.selects RX2 yX2_changePull yX2_changePull, Cond.code yX2_changePull cX2_changePull 3 none, Cond.methodLink RX2 204 yX2_changeKnots, Cond.instanceMethod yX2_changeKnots, Cond.selects RX2 yX2_changeKnots yX2_changeKnots, Cond.code yX2_changeKnots cX2_changeKnots 3 none, Cond.methodLink RX2 209 yX2_changeTwist, Cond.instanceMethod yX2_changeTwist, Cond.selects RX2 yX2_changeTwist yX2_changeTwist, Cond.code yX2_changeTwist cX2_changeTwist 4 none, Cond.methodLink RX2 148 yX2_stretch, Cond.instanceMethod yX2_stretch, Cond.selects RX2 yX2_stretch yX2_stretch, Cond.code yX2_stretch cX2_stretch 3 none, Cond.methodLink RX2 219 Lib.Math.max.name, Cond.static Lib.Math.max.name, Cond.code Lib.Math.max.name Lib.Math.max.code 2 (some .int), Cond.methodLink RX2 222 Lib.MathLoose.max_long.x, Cond.static Lib.MathLoose.max_long.x, Cond.code Lib.MathLoose.max_long.x Lib.MathLoose.max_long.code 4 (some .long), Cond.methodLink RX2 212 yX1_greater, Cond.static yX1_greater]
def wsL_law_r11 : List Cond := [Cond.code yX1_greater cX1_greater 4 (some .long), Cond.methodLink RX1 15 yX1_rank, Cond.static yX1_rank, Cond.code yX1_rank cX1_rank 2 (some .long), Cond.methodLink RX2 216 yX1_shortGreater, Cond.static yX1_shortGreater, Cond.code yX1_shortGreater cX1_shortGreater 2 (some .int), Cond.methodLink RX1 19 yX1_shortRank, Cond.static yX1_shortRank, Cond.code yX1_shortRank cX1_shortRank 1 (some .int), Cond.methodLink RX2 152 yX2_ease, Cond.instanceMethod yX2_ease, Cond.selects RX2 yX2_ease yX2_ease, Cond.code yX2_ease cX2_ease 3 none, Cond.methodLink RX2 230 Lib.Math.min.name, Cond.static Lib.Math.min.name, Cond.code Lib.Math.min.name Lib.Math.min.code 2 (some .int), Cond.methodLink RX2 233 Lib.MathLoose.min_long.x, Cond.static Lib.MathLoose.min_long.x, Cond.code Lib.MathLoose.min_long.x Lib.MathLoose.min_long.code 4 (some .long), Cond.methodLink RX2 224 yX1_lesser, Cond.static yX1_lesser, Cond.code yX1_lesser cX1_lesser 4 (some .long), Cond.methodLink RX2 227 yX1_shortLesser]
def wsL_law_r12 : List Cond := [Cond.static yX1_shortLesser, Cond.code yX1_shortLesser cX1_shortLesser 2 (some .int), Cond.methodLink RX2 155 yX2_letToWhole, Cond.instanceMethod yX2_letToWhole, Cond.selects RX2 yX2_letToWhole yX2_letToWhole, Cond.code yX2_letToWhole cX2_letToWhole 8 none, Cond.methodLink RX2 235 yX1_wholeAbove, Cond.static yX1_wholeAbove, Cond.code yX1_wholeAbove cX1_wholeAbove 6 (some .long), Cond.methodLink RX1 27 yX1_wholeBelow, Cond.static yX1_wholeBelow, Cond.code yX1_wholeBelow cX1_wholeBelow 5 (some .long), Cond.methodLink RX1 23 yX1_power, Cond.static yX1_power, Cond.code yX1_power cX1_power 4 (some .int), Cond.methodLink RX1 31 yX1_nextWhole, Cond.static yX1_nextWhole, Cond.code yX1_nextWhole cX1_nextWhole 4 (some .long), Cond.methodLink RX2 239 yX1_wholeBelow, Cond.methodLink RX2 242 yX2_changeAmounts, Cond.instanceMethod yX2_changeAmounts, Cond.selects RX2 yX2_changeAmounts yX2_changeAmounts, Cond.code yX2_changeAmounts cX2_changeAmounts 6 none, Cond.methodLink RX2 251 yX1_withSign]
def wsL_law_r13 : List Cond := [Cond.static yX1_withSign, Cond.code yX1_withSign cX1_withSign 4 (some .long), Cond.constantLong RX1 12 (-9223372036854775808), Cond.methodLink RX2 255 yX1_shortWithSign, Cond.static yX1_shortWithSign, Cond.code yX1_shortWithSign cX1_shortWithSign 2 (some .int), Cond.constant RX1 14 (-2147483648), Cond.methodLink RX2 159 yX2_letNear, Cond.instanceMethod yX2_letNear, Cond.selects RX2 yX2_letNear yX2_letNear, Cond.code yX2_letNear cX2_letNear 2 none, Cond.methodLink RX2 246 yX1_wholeNear, Cond.static yX1_wholeNear, Cond.code yX1_wholeNear cX1_wholeNear 13 (some .long), Cond.methodLink RX2 162 yX2_lean, Cond.instanceMethod yX2_lean, Cond.selects RX2 yX2_lean yX2_lean, Cond.code yX2_lean cX2_lean 2 none, Cond.constantLong RX2 249 (4607182418800017408), Cond.constant RX2 254 (1065353216), Cond.methodLink RX2 165 yX2_mirror, Cond.instanceMethod yX2_mirror, Cond.selects RX2 yX2_mirror yX2_mirror, Cond.code yX2_mirror cX2_mirror 3 none]
def wsL_law_r14 : List Cond := [Cond.methodLink RX2 168 yX2_hold, Cond.instanceMethod yX2_hold, Cond.selects RX2 yX2_hold yX2_hold, Cond.code yX2_hold cX2_hold 2 none, Cond.methodLink RX2 171 yX2_placeStops, Cond.instanceMethod yX2_placeStops, Cond.selects RX2 yX2_placeStops yX2_placeStops, Cond.code yX2_placeStops cX2_placeStops 3 none, Cond.methodLink RX2 174 yX2_gather, Cond.instanceMethod yX2_gather, Cond.selects RX2 yX2_gather yX2_gather, Cond.code yX2_gather cX2_gather 2 none, Cond.methodLink RX2 177 yX2_trade, Cond.instanceMethod yX2_trade, Cond.selects RX2 yX2_trade yX2_trade, Cond.code yX2_trade cX2_trade 13 none, Cond.methodLink RX2 180 yX2_climb, Cond.instanceMethod yX2_climb, Cond.selects RX2 yX2_climb yX2_climb, Cond.code yX2_climb cX2_climb 2 none, Cond.methodLink RX2 183 yX2_halve, Cond.instanceMethod yX2_halve, Cond.selects RX2 yX2_halve yX2_halve, Cond.code yX2_halve cX2_halve 2 none]
def wsL_law_r15 : List Cond := [Cond.constantLong RX2 262 (2139095040), Cond.methodLink RX2 258 yX1_half, Cond.static yX1_half, Cond.code yX1_half cX1_half 9 (some .long), Cond.constantLong RX1 34 (2), Cond.methodLink RX2 186 yX2_makeTwice, Cond.instanceMethod yX2_makeTwice, Cond.selects RX2 yX2_makeTwice yX2_makeTwice, Cond.code yX2_makeTwice cX2_makeTwice 2 none, Cond.methodLink RX2 264 yX1_twice, Cond.static yX1_twice, Cond.code yX1_twice cX1_twice 9 (some .long), Cond.methodLink RX2 189 yX2_give, Cond.instanceMethod yX2_give, Cond.selects RX2 yX2_give yX2_give, Cond.code yX2_give cX2_give 2 none, Cond.methodLink RL 43 yX3_move, Cond.instanceMethod yX3_move, Cond.selects RX3 yX3_move yX3_move, Cond.code yX3_move cX3_move 4 (some .int), Cond.methodLink RX3 213 yX3_lackOf, Cond.instanceMethod yX3_lackOf, Cond.selects RX3 yX3_lackOf yX3_lackOf, Cond.code yX3_lackOf cX3_lackOf 4 (some .int)]
def wsL_law_r16 : List Cond := [Cond.methodLink RX3 127 yX3_wantsOther, Cond.static yX3_wantsOther, Cond.code yX3_wantsOther cX3_wantsOther 1 (some .boolean), Cond.methodLink RX3 217 yX3_moved, Cond.instanceMethod yX3_moved, Cond.selects RX3 yX3_moved yX3_moved, Cond.code yX3_moved cX3_moved 11 (some .int), Cond.methodLink RX3 209 yX3_does, Cond.instanceMethod yX3_does, Cond.selects RX3 yX3_does yX3_does, Cond.code yX3_does cX3_does 4 none, Cond.fieldLink RX3 153 "PuppetBarModel" "tilt" "J", Cond.fieldLink RX3 157 "PuppetBarModel" "weight" "I", Cond.fieldLink RX3 161 "PuppetBarModel" "count" "I", Cond.fieldLink RX3 164 "PuppetBarModel" "turn" "J", Cond.methodLink RX3 167 yX3_flip, Cond.instanceMethod yX3_flip, Cond.selects RX3 yX3_flip yX3_flip, Cond.code yX3_flip cX3_flip 2 none, Cond.methodLink RX3 130 yX3_amount4, Cond.static yX3_amount4, Cond.code yX3_amount4 cX3_amount4 1 (some .int), Cond.constant RX3 96 (2147483647), Cond.methodLink RX3 170 yX3_stretch]
def wsL_law_r17 : List Cond := [Cond.instanceMethod yX3_stretch, Cond.selects RX3 yX3_stretch yX3_stretch, Cond.code yX3_stretch cX3_stretch 3 none, Cond.methodLink RX3 133 yX3_greater, Cond.static yX3_greater, Cond.code yX3_greater cX3_greater 4 (some .long), Cond.methodLink RX3 97 yX3_place, Cond.static yX3_place, Cond.code yX3_place cX3_place 2 (some .long), Cond.constantLong RX3 94 (9223372036854775807), Cond.methodLink RX3 137 yX3_greater4, Cond.static yX3_greater4, Cond.code yX3_greater4 cX3_greater4 2 (some .int), Cond.methodLink RX3 101 yX3_place4, Cond.static yX3_place4, Cond.code yX3_place4 cX3_place4 1 (some .int), Cond.methodLink RX3 174 yX3_ease, Cond.instanceMethod yX3_ease, Cond.selects RX3 yX3_ease yX3_ease, Cond.code yX3_ease cX3_ease 3 none, Cond.methodLink RX3 141 yX3_lesser, Cond.static yX3_lesser, Cond.code yX3_lesser cX3_lesser 4 (some .long), Cond.methodLink RX3 144 yX3_lesser4]
def wsL_law_r18 : List Cond := [Cond.static yX3_lesser4, Cond.code yX3_lesser4 cX3_lesser4 2 (some .int), Cond.methodLink RX3 177 yX3_wholes, Cond.instanceMethod yX3_wholes, Cond.selects RX3 yX3_wholes yX3_wholes, Cond.code yX3_wholes cX3_wholes 5 none, Cond.methodLink RX3 91 yX3_down, Cond.static yX3_down, Cond.code yX3_down cX3_down 7 (some .long), Cond.methodLink RX3 84 yX3_one, Cond.static yX3_one, Cond.code yX3_one cX3_one 1 (some .long), Cond.methodLink RX3 87 yX3_isBelow, Cond.static yX3_isBelow, Cond.code yX3_isBelow cX3_isBelow 3 (some .boolean), Cond.methodLink RX3 147 yX3_up, Cond.static yX3_up, Cond.code yX3_up cX3_up 3 (some .long), Cond.methodLink RX3 150 yX3_near, Cond.static yX3_near, Cond.code yX3_near cX3_near 15 (some .long), Cond.methodLink RX3 180 yX3_lean, Cond.instanceMethod yX3_lean, Cond.selects RX3 yX3_lean yX3_lean]
def wsL_law_r19 : List Cond := [Cond.code yX3_lean cX3_lean 4 none, Cond.methodLink RX3 183 yX3_mirror, Cond.instanceMethod yX3_mirror, Cond.selects RX3 yX3_mirror yX3_mirror, Cond.code yX3_mirror cX3_mirror 3 none, Cond.constant RX3 160 (-2147483648), Cond.methodLink RX3 186 yX3_stops, Cond.instanceMethod yX3_stops, Cond.selects RX3 yX3_stops yX3_stops, Cond.code yX3_stops cX3_stops 7 none, Cond.methodLink RX3 189 yX3_gather, Cond.instanceMethod yX3_gather, Cond.selects RX3 yX3_gather yX3_gather, Cond.code yX3_gather cX3_gather 5 none, Cond.methodLink RX3 192 yX3_trade, Cond.static yX3_trade, Cond.code yX3_trade cX3_trade 5 none, Cond.methodLink RX3 196 yX3_trade4, Cond.static yX3_trade4, Cond.code yX3_trade4 cX3_trade4 4 none, Cond.methodLink RX3 200 yX3_climb, Cond.instanceMethod yX3_climb, Cond.selects RX3 yX3_climb yX3_climb, Cond.code yX3_climb cX3_climb 2 none]
def wsL_law_r20 : List Cond := [Cond.methodLink RX3 203 yX3_half, Cond.static yX3_half, Cond.code yX3_half cX3_half 7 (some .long), Cond.methodLink RX3 206 yX3_twice, Cond.static yX3_twice, Cond.code yX3_twice cX3_twice 5 (some .long), Cond.methodLink RL 44 yX2_step, Cond.instanceMethod yX2_step, Cond.selects RX2 yX2_step yX2_step, Cond.code yX2_step cX2_step 5 (some .int), Cond.fieldLink RX2 101 "PuppetBar$Figure" "size" "I", Cond.fieldLink RX2 104 "PuppetBar$Figure" "moves" "[I", Cond.fieldLink RX2 107 "PuppetBar$Figure" "threads" "[I", Cond.fieldLink RX2 110 "PuppetBar$Figure" "others" "[I", Cond.methodLink RL 47 yX3_step, Cond.instanceMethod yX3_step, Cond.selects RX3 yX3_step yX3_step, Cond.code yX3_step cX3_step 4 (some .int), Cond.fieldLink RX3 221 "PuppetBarModel" "steps" "I", Cond.methodLink RL 48 yX2_forget, Cond.instanceMethod yX2_forget, Cond.selects RX2 yX2_forget yX2_forget, Cond.code yX2_forget cX2_forget 2 (some .int), Cond.methodLink RL 51 yX3_forget]
def wsL_law_r21 : List Cond := [Cond.instanceMethod yX3_forget, Cond.selects RX3 yX3_forget yX3_forget, Cond.code yX3_forget cX3_forget 2 (some .int), Cond.methodLink RL 52 yX2_dance, Cond.instanceMethod yX2_dance, Cond.selects RX2 yX2_dance yX2_dance, Cond.code yX2_dance cX2_dance 6 (some .int), Cond.methodLink RX2 113 yX2_danceOnce, Cond.instanceMethod yX2_danceOnce, Cond.selects RX2 yX2_danceOnce yX2_danceOnce, Cond.code yX2_danceOnce cX2_danceOnce 2 (some .int), Cond.methodLink RX2 117 yX2_keepDance, Cond.instanceMethod yX2_keepDance, Cond.selects RX2 yX2_keepDance yX2_keepDance, Cond.code yX2_keepDance cX2_keepDance 3 none, Cond.methodLink RL 55 yX3_dance, Cond.instanceMethod yX3_dance, Cond.selects RX3 yX3_dance yX3_dance, Cond.code yX3_dance cX3_dance 6 (some .int), Cond.fieldLink RX3 224 "PuppetBarModel" "endedAt" "I", Cond.methodLink RL 56 yX2_danced, Cond.instanceMethod yX2_danced, Cond.selects RX2 yX2_danced yX2_danced, Cond.code yX2_danced cX2_danced 2 (some .int)]
def wsL_law_r22 : List Cond := [Cond.methodLink RL 59 yX3_danced, Cond.instanceMethod yX3_danced, Cond.selects RX3 yX3_danced yX3_danced, Cond.code yX3_danced cX3_danced 2 (some .int), Cond.methodLink RL 60 yX2_bar, Cond.instanceMethod yX2_bar, Cond.selects RX2 yX2_bar yX2_bar, Cond.code yX2_bar cX2_bar 2 (some .long), Cond.methodLink RL 64 yX3_bar, Cond.instanceMethod yX3_bar, Cond.selects RX3 yX3_bar yX3_bar, Cond.code yX3_bar cX3_bar 2 (some .long), Cond.methodLink RL 65 yX2_order, Cond.instanceMethod yX2_order, Cond.selects RX2 yX2_order yX2_order, Cond.code yX2_order cX2_order 3 (some .int), Cond.methodLink RX2 120 yX2_placeOf, Cond.instanceMethod yX2_placeOf, Cond.selects RX2 yX2_placeOf yX2_placeOf, Cond.code yX2_placeOf cX2_placeOf 4 (some .int), Cond.methodLink RX2 267 yX2_isAhead, Cond.instanceMethod yX2_isAhead, Cond.selects RX2 yX2_isAhead yX2_isAhead, Cond.code yX2_isAhead cX2_isAhead 4 (some .boolean)]
def wsL_law_r23 : List Cond := [Cond.methodLink RX2 271 yX2_compareStrung, Cond.instanceMethod yX2_compareStrung, Cond.selects RX2 yX2_compareStrung yX2_compareStrung, Cond.code yX2_compareStrung cX2_compareStrung 4 (some .int), Cond.methodLink RX2 274 yX1_rank, Cond.methodLink RX2 277 yJ13_compare_74951, Cond.static yJ13_compare_74951, Cond.initialized RJ13, Cond.code yJ13_compare_74951 cJ13_compare_74951 4 (some .int), Cond.methodLink RX2 283 yX1_shortRank, Cond.methodLink RX2 286 yJ6_compare_7cf53, Cond.static yJ6_compare_7cf53, Cond.initialized RJ6, Cond.code yJ6_compare_7cf53 cJ6_compare_7cf53 2 (some .int), Cond.methodLink RL 68 yX3_order, Cond.instanceMethod yX3_order, Cond.selects RX3 yX3_order yX3_order, Cond.code yX3_order cX3_order 5 (some .int), Cond.methodLink RX3 227 yX3_isAhead, Cond.instanceMethod yX3_isAhead, Cond.selects RX3 yX3_isAhead yX3_isAhead, Cond.code yX3_isAhead cX3_isAhead 3 (some .boolean)]
def wsL_law : List Cond := (wsL_law_r1 ++ (wsL_law_r2 ++ (wsL_law_r3 ++ (wsL_law_r4 ++ (wsL_law_r5 ++ (wsL_law_r6 ++ (wsL_law_r7 ++ (wsL_law_r8 ++ (wsL_law_r9 ++ (wsL_law_r10 ++ (wsL_law_r11 ++ (wsL_law_r12 ++ (wsL_law_r13 ++ (wsL_law_r14 ++ (wsL_law_r15 ++ (wsL_law_r16 ++ (wsL_law_r17 ++ (wsL_law_r18 ++ (wsL_law_r19 ++ (wsL_law_r20 ++ (wsL_law_r21 ++ (wsL_law_r22 ++ wsL_law_r23)))))))))))))))))))))) ++ wsX20 ++ wsX30 ++ wsX00 ++ ([] : List Cond)
theorem inlX0 : ∀ w ∈ wsX00, w ∈ wsL_law := fun _ h => List.mem_append_left _ (List.mem_append_right _ h)
theorem inlX2 : ∀ w ∈ wsX20, w ∈ wsL_law := fun _ h => List.mem_append_left _ (List.mem_append_left _ (List.mem_append_left _ (List.mem_append_right _ h)))
theorem inlX3 : ∀ w ∈ wsX30, w ∈ wsL_law := fun _ h => List.mem_append_left _ (List.mem_append_left _ (List.mem_append_right _ h))
end
section
theorem dX0_init_0 : decode cX0_init 0 = .ok (.aload_n 0, 1) := by decide +kernel
theorem dX0_init_1 : decode cX0_init 1 = .ok (.invokespecial 3, 3) := by decide +kernel
theorem dX0_init_4 : decode cX0_init 4 = .ok (.aload_n 0, 1) := by decide +kernel
theorem dX0_init_5 : decode cX0_init 5 = .ok (.bipush 40, 2) := by decide +kernel
theorem dX0_init_7 : decode cX0_init 7 = .ok (.newarray .int, 2) := by decide +kernel
theorem dX0_init_9 : decode cX0_init 9 = .ok (.putfield 9, 3) := by decide +kernel
theorem dX0_init_12 : decode cX0_init 12 = .ok (.aload_n 0, 1) := by decide +kernel
theorem dX0_init_13 : decode cX0_init 13 = .ok (.bipush 40, 2) := by decide +kernel
theorem dX0_init_15 : decode cX0_init 15 = .ok (.newarray .int, 2) := by decide +kernel
theorem dX0_init_17 : decode cX0_init 17 = .ok (.putfield 15, 3) := by decide +kernel
theorem dX0_init_20 : decode cX0_init 20 = .ok (.aload_n 0, 1) := by decide +kernel
theorem dX0_init_21 : decode cX0_init 21 = .ok (.bipush 40, 2) := by decide +kernel
theorem dX0_init_23 : decode cX0_init 23 = .ok (.newarray .int, 2) := by decide +kernel
theorem dX0_init_25 : decode cX0_init 25 = .ok (.putfield 18, 3) := by decide +kernel
theorem dX0_init_28 : decode cX0_init 28 = .ok (.aload_n 0, 1) := by decide +kernel
theorem dX0_init_29 : decode cX0_init 29 = .ok (.iconst 0, 1) := by decide +kernel
theorem dX0_init_30 : decode cX0_init 30 = .ok (.putfield 21, 3) := by decide +kernel
theorem dX0_init_33 : decode cX0_init 33 = .ok (.return_, 1) := by decide +kernel
theorem dX1_amount_0 : decode cX1_amount 0 = .ok (.lload_n 0, 1) := by decide +kernel
theorem dX1_amount_1 : decode cX1_amount 1 = .ok (.ldc2_w 9, 3) := by decide +kernel
theorem dX1_amount_4 : decode cX1_amount 4 = .ok (.land, 1) := by decide +kernel
theorem dX1_amount_5 : decode cX1_amount 5 = .ok (.lreturn, 1) := by decide +kernel
theorem dX1_shortAmount_0 : decode cX1_shortAmount 0 = .ok (.iload_n 0, 1) := by decide +kernel
theorem dX1_shortAmount_1 : decode cX1_shortAmount 1 = .ok (.ldc 11, 2) := by decide +kernel
theorem dX1_shortAmount_3 : decode cX1_shortAmount 3 = .ok (.iand, 1) := by decide +kernel
theorem dX1_shortAmount_4 : decode cX1_shortAmount 4 = .ok (.ireturn, 1) := by decide +kernel
theorem dX1_withSign_0 : decode cX1_withSign 0 = .ok (.lload_n 0, 1) := by decide +kernel
theorem dX1_withSign_1 : decode cX1_withSign 1 = .ok (.lload_n 2, 1) := by decide +kernel
theorem dX1_withSign_2 : decode cX1_withSign 2 = .ok (.ldc2_w 12, 3) := by decide +kernel
theorem dX1_withSign_5 : decode cX1_withSign 5 = .ok (.land, 1) := by decide +kernel
theorem dX1_withSign_6 : decode cX1_withSign 6 = .ok (.lor, 1) := by decide +kernel
theorem dX1_withSign_7 : decode cX1_withSign 7 = .ok (.lreturn, 1) := by decide +kernel
theorem dX1_shortWithSign_0 : decode cX1_shortWithSign 0 = .ok (.iload_n 0, 1) := by decide +kernel
theorem dX1_shortWithSign_1 : decode cX1_shortWithSign 1 = .ok (.iload_n 1, 1) := by decide +kernel
theorem dX1_shortWithSign_2 : decode cX1_shortWithSign 2 = .ok (.ldc 14, 2) := by decide +kernel
theorem dX1_shortWithSign_4 : decode cX1_shortWithSign 4 = .ok (.iand, 1) := by decide +kernel
theorem dX1_shortWithSign_5 : decode cX1_shortWithSign 5 = .ok (.ior, 1) := by decide +kernel
theorem dX1_shortWithSign_6 : decode cX1_shortWithSign 6 = .ok (.ireturn, 1) := by decide +kernel
theorem dX1_rank_0 : decode cX1_rank 0 = .ok (.lload_n 0, 1) := by decide +kernel
theorem dX1_rank_1 : decode cX1_rank 1 = .ok (.lconst 0, 1) := by decide +kernel
theorem dX1_rank_2 : decode cX1_rank 2 = .ok (.lcmp, 1) := by decide +kernel
theorem dX1_rank_3 : decode cX1_rank 3 = .ok (.ifCond .ge 11, 3) := by decide +kernel
theorem dX1_rank_6 : decode cX1_rank 6 = .ok (.lload_n 0, 1) := by decide +kernel
theorem dX1_rank_7 : decode cX1_rank 7 = .ok (.ldc2_w 9, 3) := by decide +kernel
theorem dX1_rank_10 : decode cX1_rank 10 = .ok (.lxor, 1) := by decide +kernel
theorem dX1_rank_11 : decode cX1_rank 11 = .ok (.goto 4, 3) := by decide +kernel
theorem dX1_rank_14 : decode cX1_rank 14 = .ok (.lload_n 0, 1) := by decide +kernel
theorem dX1_rank_15 : decode cX1_rank 15 = .ok (.lreturn, 1) := by decide +kernel
theorem dX1_shortRank_0 : decode cX1_shortRank 0 = .ok (.iload_n 0, 1) := by decide +kernel
theorem dX1_shortRank_1 : decode cX1_shortRank 1 = .ok (.ifCond .ge 10, 3) := by decide +kernel
theorem dX1_shortRank_4 : decode cX1_shortRank 4 = .ok (.iload_n 0, 1) := by decide +kernel
theorem dX1_shortRank_5 : decode cX1_shortRank 5 = .ok (.ldc 11, 2) := by decide +kernel
theorem dX1_shortRank_7 : decode cX1_shortRank 7 = .ok (.ixor, 1) := by decide +kernel
theorem dX1_shortRank_8 : decode cX1_shortRank 8 = .ok (.goto 4, 3) := by decide +kernel
theorem dX1_shortRank_11 : decode cX1_shortRank 11 = .ok (.iload_n 0, 1) := by decide +kernel
theorem dX1_shortRank_12 : decode cX1_shortRank 12 = .ok (.ireturn, 1) := by decide +kernel
set_option maxRecDepth 20000 in
theorem ggX1_greater_X1_rank : GoodIn wsX1_greater wsX1_rank := goodIn_r _ [4, 5] (by decide +kernel) (by decide +kernel)
set_option maxRecDepth 20000 in
theorem gX1_greater_X1_rank : GoodIn wsX1_greater (va_wsS RX1 15 yX1_rank wsX1_rank) := goodIn_app (goodIn_of _ (by decide +kernel)) ggX1_greater_X1_rank
theorem dX1_greater_0 : decode cX1_greater 0 = .ok (.lload_n 0, 1) := by decide +kernel
theorem dX1_greater_1 : decode cX1_greater 1 = .ok (.invokestatic 15, 3) := by decide +kernel
theorem dX1_greater_4 : decode cX1_greater 4 = .ok (.lload_n 2, 1) := by decide +kernel
theorem dX1_greater_5 : decode cX1_greater 5 = .ok (.invokestatic 15, 3) := by decide +kernel
theorem dX1_greater_8 : decode cX1_greater 8 = .ok (.lcmp, 1) := by decide +kernel
theorem dX1_greater_9 : decode cX1_greater 9 = .ok (.ifCond .lt 7, 3) := by decide +kernel
theorem dX1_greater_12 : decode cX1_greater 12 = .ok (.lload_n 0, 1) := by decide +kernel
theorem dX1_greater_13 : decode cX1_greater 13 = .ok (.goto 4, 3) := by decide +kernel
theorem dX1_greater_16 : decode cX1_greater 16 = .ok (.lload_n 2, 1) := by decide +kernel
theorem dX1_greater_17 : decode cX1_greater 17 = .ok (.lreturn, 1) := by decide +kernel
set_option maxRecDepth 20000 in
theorem ggX1_lesser_X1_rank : GoodIn wsX1_lesser wsX1_rank := goodIn_r _ [4, 5] (by decide +kernel) (by decide +kernel)
set_option maxRecDepth 20000 in
theorem gX1_lesser_X1_rank : GoodIn wsX1_lesser (va_wsS RX1 15 yX1_rank wsX1_rank) := goodIn_app (goodIn_of _ (by decide +kernel)) ggX1_lesser_X1_rank
theorem dX1_lesser_0 : decode cX1_lesser 0 = .ok (.lload_n 0, 1) := by decide +kernel
theorem dX1_lesser_1 : decode cX1_lesser 1 = .ok (.invokestatic 15, 3) := by decide +kernel
theorem dX1_lesser_4 : decode cX1_lesser 4 = .ok (.lload_n 2, 1) := by decide +kernel
theorem dX1_lesser_5 : decode cX1_lesser 5 = .ok (.invokestatic 15, 3) := by decide +kernel
theorem dX1_lesser_8 : decode cX1_lesser 8 = .ok (.lcmp, 1) := by decide +kernel
theorem dX1_lesser_9 : decode cX1_lesser 9 = .ok (.ifCond .gt 7, 3) := by decide +kernel
theorem dX1_lesser_12 : decode cX1_lesser 12 = .ok (.lload_n 0, 1) := by decide +kernel
theorem dX1_lesser_13 : decode cX1_lesser 13 = .ok (.goto 4, 3) := by decide +kernel
theorem dX1_lesser_16 : decode cX1_lesser 16 = .ok (.lload_n 2, 1) := by decide +kernel
theorem dX1_lesser_17 : decode cX1_lesser 17 = .ok (.lreturn, 1) := by decide +kernel
set_option maxRecDepth 20000 in
theorem ggX1_shortGreater_X1_shortRank : GoodIn wsX1_shortGreater wsX1_shortRank := goodIn_r _ [4, 5] (by decide +kernel) (by decide +kernel)
set_option maxRecDepth 20000 in
theorem gX1_shortGreater_X1_shortRank : GoodIn wsX1_shortGreater (va_wsS RX1 19 yX1_shortRank wsX1_shortRank) := goodIn_app (goodIn_of _ (by decide +kernel)) ggX1_shortGreater_X1_shortRank
theorem dX1_shortGreater_0 : decode cX1_shortGreater 0 = .ok (.iload_n 0, 1) := by decide +kernel
theorem dX1_shortGreater_1 : decode cX1_shortGreater 1 = .ok (.invokestatic 19, 3) := by decide +kernel
theorem dX1_shortGreater_4 : decode cX1_shortGreater 4 = .ok (.iload_n 1, 1) := by decide +kernel
theorem dX1_shortGreater_5 : decode cX1_shortGreater 5 = .ok (.invokestatic 19, 3) := by decide +kernel
theorem dX1_shortGreater_8 : decode cX1_shortGreater 8 = .ok (.if_icmp .lt 7, 3) := by decide +kernel
theorem dX1_shortGreater_11 : decode cX1_shortGreater 11 = .ok (.iload_n 0, 1) := by decide +kernel
theorem dX1_shortGreater_12 : decode cX1_shortGreater 12 = .ok (.goto 4, 3) := by decide +kernel
theorem dX1_shortGreater_15 : decode cX1_shortGreater 15 = .ok (.iload_n 1, 1) := by decide +kernel
theorem dX1_shortGreater_16 : decode cX1_shortGreater 16 = .ok (.ireturn, 1) := by decide +kernel
set_option maxRecDepth 20000 in
theorem ggX1_shortLesser_X1_shortRank : GoodIn wsX1_shortLesser wsX1_shortRank := goodIn_r _ [4, 5] (by decide +kernel) (by decide +kernel)
set_option maxRecDepth 20000 in
theorem gX1_shortLesser_X1_shortRank : GoodIn wsX1_shortLesser (va_wsS RX1 19 yX1_shortRank wsX1_shortRank) := goodIn_app (goodIn_of _ (by decide +kernel)) ggX1_shortLesser_X1_shortRank
theorem dX1_shortLesser_0 : decode cX1_shortLesser 0 = .ok (.iload_n 0, 1) := by decide +kernel
theorem dX1_shortLesser_1 : decode cX1_shortLesser 1 = .ok (.invokestatic 19, 3) := by decide +kernel
theorem dX1_shortLesser_4 : decode cX1_shortLesser 4 = .ok (.iload_n 1, 1) := by decide +kernel
theorem dX1_shortLesser_5 : decode cX1_shortLesser 5 = .ok (.invokestatic 19, 3) := by decide +kernel
theorem dX1_shortLesser_8 : decode cX1_shortLesser 8 = .ok (.if_icmp .gt 7, 3) := by decide +kernel
theorem dX1_shortLesser_11 : decode cX1_shortLesser 11 = .ok (.iload_n 0, 1) := by decide +kernel
theorem dX1_shortLesser_12 : decode cX1_shortLesser 12 = .ok (.goto 4, 3) := by decide +kernel
theorem dX1_shortLesser_15 : decode cX1_shortLesser 15 = .ok (.iload_n 1, 1) := by decide +kernel
theorem dX1_shortLesser_16 : decode cX1_shortLesser 16 = .ok (.ireturn, 1) := by decide +kernel
theorem dX1_power_0 : decode cX1_power 0 = .ok (.lload_n 0, 1) := by decide +kernel
theorem dX1_power_1 : decode cX1_power 1 = .ok (.iload_n 2, 1) := by decide +kernel
theorem dX1_power_2 : decode cX1_power 2 = .ok (.lshr, 1) := by decide +kernel
theorem dX1_power_3 : decode cX1_power 3 = .ok (.l2i, 1) := by decide +kernel
theorem dX1_power_4 : decode cX1_power 4 = .ok (.iload_n 3, 1) := by decide +kernel
theorem dX1_power_5 : decode cX1_power 5 = .ok (.isub, 1) := by decide +kernel
theorem dX1_power_6 : decode cX1_power 6 = .ok (.ireturn, 1) := by decide +kernel
set_option maxRecDepth 20000 in
theorem ggX1_wholeBelow_X1_power : GoodIn wsX1_wholeBelow wsX1_power := goodIn_r _ [4] (by decide +kernel) (by decide +kernel)
set_option maxRecDepth 20000 in
theorem gX1_wholeBelow_X1_power : GoodIn wsX1_wholeBelow (va_wsS RX1 23 yX1_power wsX1_power) := goodIn_app (goodIn_of _ (by decide +kernel)) ggX1_wholeBelow_X1_power
theorem dX1_wholeBelow_0 : decode cX1_wholeBelow 0 = .ok (.lload_n 0, 1) := by decide +kernel
theorem dX1_wholeBelow_1 : decode cX1_wholeBelow 1 = .ok (.iload_n 2, 1) := by decide +kernel
theorem dX1_wholeBelow_2 : decode cX1_wholeBelow 2 = .ok (.iload_n 3, 1) := by decide +kernel
theorem dX1_wholeBelow_3 : decode cX1_wholeBelow 3 = .ok (.invokestatic 23, 3) := by decide +kernel
theorem dX1_wholeBelow_6 : decode cX1_wholeBelow 6 = .ok (.istore 4, 2) := by decide +kernel
theorem dX1_wholeBelow_8 : decode cX1_wholeBelow 8 = .ok (.iload 4, 2) := by decide +kernel
theorem dX1_wholeBelow_10 : decode cX1_wholeBelow 10 = .ok (.ifCond .ge 5, 3) := by decide +kernel
theorem dX1_wholeBelow_13 : decode cX1_wholeBelow 13 = .ok (.lconst 0, 1) := by decide +kernel
theorem dX1_wholeBelow_14 : decode cX1_wholeBelow 14 = .ok (.lreturn, 1) := by decide +kernel
theorem dX1_wholeBelow_15 : decode cX1_wholeBelow 15 = .ok (.iload 4, 2) := by decide +kernel
theorem dX1_wholeBelow_17 : decode cX1_wholeBelow 17 = .ok (.iload_n 2, 1) := by decide +kernel
theorem dX1_wholeBelow_18 : decode cX1_wholeBelow 18 = .ok (.if_icmp .lt 7, 3) := by decide +kernel
theorem dX1_wholeBelow_21 : decode cX1_wholeBelow 21 = .ok (.lload_n 0, 1) := by decide +kernel
theorem dX1_wholeBelow_22 : decode cX1_wholeBelow 22 = .ok (.goto 12, 3) := by decide +kernel
theorem dX1_wholeBelow_25 : decode cX1_wholeBelow 25 = .ok (.lload_n 0, 1) := by decide +kernel
theorem dX1_wholeBelow_26 : decode cX1_wholeBelow 26 = .ok (.lconst 1, 1) := by decide +kernel
theorem dX1_wholeBelow_27 : decode cX1_wholeBelow 27 = .ok (.iload_n 2, 1) := by decide +kernel
theorem dX1_wholeBelow_28 : decode cX1_wholeBelow 28 = .ok (.iload 4, 2) := by decide +kernel
theorem dX1_wholeBelow_30 : decode cX1_wholeBelow 30 = .ok (.isub, 1) := by decide +kernel
theorem dX1_wholeBelow_31 : decode cX1_wholeBelow 31 = .ok (.lshl, 1) := by decide +kernel
theorem dX1_wholeBelow_32 : decode cX1_wholeBelow 32 = .ok (.lneg, 1) := by decide +kernel
theorem dX1_wholeBelow_33 : decode cX1_wholeBelow 33 = .ok (.land, 1) := by decide +kernel
theorem dX1_wholeBelow_34 : decode cX1_wholeBelow 34 = .ok (.lreturn, 1) := by decide +kernel
set_option maxRecDepth 20000 in
theorem ggX1_wholeAbove_X1_wholeBelow : GoodIn wsX1_wholeAbove wsX1_wholeBelow := goodIn_r _ [4, 5, 6, 3, 7] (by decide +kernel) (by decide +kernel)
set_option maxRecDepth 20000 in
theorem gX1_wholeAbove_X1_wholeBelow : GoodIn wsX1_wholeAbove (va_wsS RX1 27 yX1_wholeBelow wsX1_wholeBelow) := goodIn_app (goodIn_of _ (by decide +kernel)) ggX1_wholeAbove_X1_wholeBelow
set_option maxRecDepth 20000 in
theorem ggX1_wholeAbove_X1_nextWhole : GoodIn wsX1_wholeAbove wsX1_nextWhole := goodIn_r _ [10, 5, 6, 3, 7] (by decide +kernel) (by decide +kernel)
set_option maxRecDepth 20000 in
theorem gX1_wholeAbove_X1_nextWhole : GoodIn wsX1_wholeAbove (va_wsS RX1 31 yX1_nextWhole wsX1_nextWhole) := goodIn_app (goodIn_of _ (by decide +kernel)) ggX1_wholeAbove_X1_nextWhole
theorem dX1_wholeAbove_0 : decode cX1_wholeAbove 0 = .ok (.lload_n 0, 1) := by decide +kernel
theorem dX1_wholeAbove_1 : decode cX1_wholeAbove 1 = .ok (.iload_n 2, 1) := by decide +kernel
theorem dX1_wholeAbove_2 : decode cX1_wholeAbove 2 = .ok (.iload_n 3, 1) := by decide +kernel
theorem dX1_wholeAbove_3 : decode cX1_wholeAbove 3 = .ok (.invokestatic 27, 3) := by decide +kernel
theorem dX1_wholeAbove_6 : decode cX1_wholeAbove 6 = .ok (.lstore 4, 2) := by decide +kernel
theorem dX1_wholeAbove_8 : decode cX1_wholeAbove 8 = .ok (.lload 4, 2) := by decide +kernel
theorem dX1_wholeAbove_10 : decode cX1_wholeAbove 10 = .ok (.lload_n 0, 1) := by decide +kernel
theorem dX1_wholeAbove_11 : decode cX1_wholeAbove 11 = .ok (.lcmp, 1) := by decide +kernel
theorem dX1_wholeAbove_12 : decode cX1_wholeAbove 12 = .ok (.ifCond .ne 7, 3) := by decide +kernel
theorem dX1_wholeAbove_15 : decode cX1_wholeAbove 15 = .ok (.lload_n 0, 1) := by decide +kernel
theorem dX1_wholeAbove_16 : decode cX1_wholeAbove 16 = .ok (.goto 10, 3) := by decide +kernel
theorem dX1_wholeAbove_19 : decode cX1_wholeAbove 19 = .ok (.lload 4, 2) := by decide +kernel
theorem dX1_wholeAbove_21 : decode cX1_wholeAbove 21 = .ok (.iload_n 2, 1) := by decide +kernel
theorem dX1_wholeAbove_22 : decode cX1_wholeAbove 22 = .ok (.iload_n 3, 1) := by decide +kernel
theorem dX1_wholeAbove_23 : decode cX1_wholeAbove 23 = .ok (.invokestatic 31, 3) := by decide +kernel
theorem dX1_wholeAbove_26 : decode cX1_wholeAbove 26 = .ok (.lreturn, 1) := by decide +kernel
set_option maxRecDepth 20000 in
theorem ggX1_wholeNear_X1_wholeBelow : GoodIn wsX1_wholeNear wsX1_wholeBelow := goodIn_r _ [4, 5, 6, 3, 7] (by decide +kernel) (by decide +kernel)
set_option maxRecDepth 20000 in
theorem gX1_wholeNear_X1_wholeBelow : GoodIn wsX1_wholeNear (va_wsS RX1 27 yX1_wholeBelow wsX1_wholeBelow) := goodIn_app (goodIn_of _ (by decide +kernel)) ggX1_wholeNear_X1_wholeBelow
set_option maxRecDepth 20000 in
theorem ggX1_wholeNear_X1_power : GoodIn wsX1_wholeNear wsX1_power := goodIn_r _ [7] (by decide +kernel) (by decide +kernel)
set_option maxRecDepth 20000 in
theorem gX1_wholeNear_X1_power : GoodIn wsX1_wholeNear (va_wsS RX1 23 yX1_power wsX1_power) := goodIn_app (goodIn_of _ (by decide +kernel)) ggX1_wholeNear_X1_power
set_option maxRecDepth 20000 in
theorem ggX1_wholeNear_X1_nextWhole : GoodIn wsX1_wholeNear wsX1_nextWhole := goodIn_r _ [10, 5, 6, 3, 7] (by decide +kernel) (by decide +kernel)
set_option maxRecDepth 20000 in
theorem gX1_wholeNear_X1_nextWhole : GoodIn wsX1_wholeNear (va_wsS RX1 31 yX1_nextWhole wsX1_nextWhole) := goodIn_app (goodIn_of _ (by decide +kernel)) ggX1_wholeNear_X1_nextWhole
theorem dX1_wholeNear_0 : decode cX1_wholeNear 0 = .ok (.lload_n 0, 1) := by decide +kernel
theorem dX1_wholeNear_1 : decode cX1_wholeNear 1 = .ok (.iload_n 2, 1) := by decide +kernel
theorem dX1_wholeNear_2 : decode cX1_wholeNear 2 = .ok (.iload_n 3, 1) := by decide +kernel
theorem dX1_wholeNear_3 : decode cX1_wholeNear 3 = .ok (.invokestatic 27, 3) := by decide +kernel
theorem dX1_wholeNear_6 : decode cX1_wholeNear 6 = .ok (.lstore 4, 2) := by decide +kernel
theorem dX1_wholeNear_8 : decode cX1_wholeNear 8 = .ok (.lload 4, 2) := by decide +kernel
theorem dX1_wholeNear_10 : decode cX1_wholeNear 10 = .ok (.lload_n 0, 1) := by decide +kernel
theorem dX1_wholeNear_11 : decode cX1_wholeNear 11 = .ok (.lcmp, 1) := by decide +kernel
theorem dX1_wholeNear_12 : decode cX1_wholeNear 12 = .ok (.ifCond .ne 5, 3) := by decide +kernel
theorem dX1_wholeNear_15 : decode cX1_wholeNear 15 = .ok (.lload_n 0, 1) := by decide +kernel
theorem dX1_wholeNear_16 : decode cX1_wholeNear 16 = .ok (.lreturn, 1) := by decide +kernel
theorem dX1_wholeNear_17 : decode cX1_wholeNear 17 = .ok (.lload_n 0, 1) := by decide +kernel
theorem dX1_wholeNear_18 : decode cX1_wholeNear 18 = .ok (.iload_n 2, 1) := by decide +kernel
theorem dX1_wholeNear_19 : decode cX1_wholeNear 19 = .ok (.iload_n 3, 1) := by decide +kernel
theorem dX1_wholeNear_20 : decode cX1_wholeNear 20 = .ok (.invokestatic 23, 3) := by decide +kernel
theorem dX1_wholeNear_23 : decode cX1_wholeNear 23 = .ok (.istore 6, 2) := by decide +kernel
theorem dX1_wholeNear_25 : decode cX1_wholeNear 25 = .ok (.iload 6, 2) := by decide +kernel
theorem dX1_wholeNear_27 : decode cX1_wholeNear 27 = .ok (.ifCond .ge 29, 3) := by decide +kernel
theorem dX1_wholeNear_30 : decode cX1_wholeNear 30 = .ok (.iload_n 3, 1) := by decide +kernel
theorem dX1_wholeNear_31 : decode cX1_wholeNear 31 = .ok (.iconst 1, 1) := by decide +kernel
theorem dX1_wholeNear_32 : decode cX1_wholeNear 32 = .ok (.isub, 1) := by decide +kernel
theorem dX1_wholeNear_33 : decode cX1_wholeNear 33 = .ok (.i2l, 1) := by decide +kernel
theorem dX1_wholeNear_34 : decode cX1_wholeNear 34 = .ok (.iload_n 2, 1) := by decide +kernel
theorem dX1_wholeNear_35 : decode cX1_wholeNear 35 = .ok (.lshl, 1) := by decide +kernel
theorem dX1_wholeNear_36 : decode cX1_wholeNear 36 = .ok (.lstore 7, 2) := by decide +kernel
theorem dX1_wholeNear_38 : decode cX1_wholeNear 38 = .ok (.lload_n 0, 1) := by decide +kernel
theorem dX1_wholeNear_39 : decode cX1_wholeNear 39 = .ok (.lload 7, 2) := by decide +kernel
theorem dX1_wholeNear_41 : decode cX1_wholeNear 41 = .ok (.lcmp, 1) := by decide +kernel
theorem dX1_wholeNear_42 : decode cX1_wholeNear 42 = .ok (.ifCond .gt 7, 3) := by decide +kernel
theorem dX1_wholeNear_45 : decode cX1_wholeNear 45 = .ok (.lconst 0, 1) := by decide +kernel
theorem dX1_wholeNear_46 : decode cX1_wholeNear 46 = .ok (.goto 9, 3) := by decide +kernel
theorem dX1_wholeNear_49 : decode cX1_wholeNear 49 = .ok (.lconst 0, 1) := by decide +kernel
theorem dX1_wholeNear_50 : decode cX1_wholeNear 50 = .ok (.iload_n 2, 1) := by decide +kernel
theorem dX1_wholeNear_51 : decode cX1_wholeNear 51 = .ok (.iload_n 3, 1) := by decide +kernel
theorem dX1_wholeNear_52 : decode cX1_wholeNear 52 = .ok (.invokestatic 31, 3) := by decide +kernel
theorem dX1_wholeNear_55 : decode cX1_wholeNear 55 = .ok (.lreturn, 1) := by decide +kernel
theorem dX1_wholeNear_56 : decode cX1_wholeNear 56 = .ok (.lconst 1, 1) := by decide +kernel
theorem dX1_wholeNear_57 : decode cX1_wholeNear 57 = .ok (.iload_n 2, 1) := by decide +kernel
theorem dX1_wholeNear_58 : decode cX1_wholeNear 58 = .ok (.iload 6, 2) := by decide +kernel
theorem dX1_wholeNear_60 : decode cX1_wholeNear 60 = .ok (.isub, 1) := by decide +kernel
theorem dX1_wholeNear_61 : decode cX1_wholeNear 61 = .ok (.lshl, 1) := by decide +kernel
theorem dX1_wholeNear_62 : decode cX1_wholeNear 62 = .ok (.lstore 7, 2) := by decide +kernel
theorem dX1_wholeNear_64 : decode cX1_wholeNear 64 = .ok (.lload_n 0, 1) := by decide +kernel
theorem dX1_wholeNear_65 : decode cX1_wholeNear 65 = .ok (.lload 4, 2) := by decide +kernel
theorem dX1_wholeNear_67 : decode cX1_wholeNear 67 = .ok (.lsub, 1) := by decide +kernel
theorem dX1_wholeNear_68 : decode cX1_wholeNear 68 = .ok (.lload 7, 2) := by decide +kernel
theorem dX1_wholeNear_70 : decode cX1_wholeNear 70 = .ok (.iconst 1, 1) := by decide +kernel
theorem dX1_wholeNear_71 : decode cX1_wholeNear 71 = .ok (.lshr, 1) := by decide +kernel
theorem dX1_wholeNear_72 : decode cX1_wholeNear 72 = .ok (.lsub, 1) := by decide +kernel
theorem dX1_wholeNear_73 : decode cX1_wholeNear 73 = .ok (.lstore 9, 2) := by decide +kernel
theorem dX1_wholeNear_75 : decode cX1_wholeNear 75 = .ok (.lload 4, 2) := by decide +kernel
theorem dX1_wholeNear_77 : decode cX1_wholeNear 77 = .ok (.lload 7, 2) := by decide +kernel
theorem dX1_wholeNear_79 : decode cX1_wholeNear 79 = .ok (.land, 1) := by decide +kernel
theorem dX1_wholeNear_80 : decode cX1_wholeNear 80 = .ok (.lconst 0, 1) := by decide +kernel
theorem dX1_wholeNear_81 : decode cX1_wholeNear 81 = .ok (.lcmp, 1) := by decide +kernel
theorem dX1_wholeNear_82 : decode cX1_wholeNear 82 = .ok (.ifCond .ne 7, 3) := by decide +kernel
theorem dX1_wholeNear_85 : decode cX1_wholeNear 85 = .ok (.iconst 1, 1) := by decide +kernel
theorem dX1_wholeNear_86 : decode cX1_wholeNear 86 = .ok (.goto 4, 3) := by decide +kernel
theorem dX1_wholeNear_89 : decode cX1_wholeNear 89 = .ok (.iconst 0, 1) := by decide +kernel
theorem dX1_wholeNear_90 : decode cX1_wholeNear 90 = .ok (.istore 11, 2) := by decide +kernel
theorem dX1_wholeNear_92 : decode cX1_wholeNear 92 = .ok (.lload 9, 2) := by decide +kernel
theorem dX1_wholeNear_94 : decode cX1_wholeNear 94 = .ok (.lconst 0, 1) := by decide +kernel
theorem dX1_wholeNear_95 : decode cX1_wholeNear 95 = .ok (.lcmp, 1) := by decide +kernel
theorem dX1_wholeNear_96 : decode cX1_wholeNear 96 = .ok (.ifCond .lt 15, 3) := by decide +kernel
theorem dX1_wholeNear_99 : decode cX1_wholeNear 99 = .ok (.lload 9, 2) := by decide +kernel
theorem dX1_wholeNear_101 : decode cX1_wholeNear 101 = .ok (.lconst 0, 1) := by decide +kernel
theorem dX1_wholeNear_102 : decode cX1_wholeNear 102 = .ok (.lcmp, 1) := by decide +kernel
theorem dX1_wholeNear_103 : decode cX1_wholeNear 103 = .ok (.ifCond .ne 12, 3) := by decide +kernel
theorem dX1_wholeNear_106 : decode cX1_wholeNear 106 = .ok (.iload 11, 2) := by decide +kernel
theorem dX1_wholeNear_108 : decode cX1_wholeNear 108 = .ok (.ifCond .eq 7, 3) := by decide +kernel
theorem dX1_wholeNear_111 : decode cX1_wholeNear 111 = .ok (.iconst 1, 1) := by decide +kernel
theorem dX1_wholeNear_112 : decode cX1_wholeNear 112 = .ok (.goto 4, 3) := by decide +kernel
theorem dX1_wholeNear_115 : decode cX1_wholeNear 115 = .ok (.iconst 0, 1) := by decide +kernel
theorem dX1_wholeNear_116 : decode cX1_wholeNear 116 = .ok (.istore 12, 2) := by decide +kernel
theorem dX1_wholeNear_118 : decode cX1_wholeNear 118 = .ok (.iload 12, 2) := by decide +kernel
theorem dX1_wholeNear_120 : decode cX1_wholeNear 120 = .ok (.ifCond .eq 8, 3) := by decide +kernel
theorem dX1_wholeNear_123 : decode cX1_wholeNear 123 = .ok (.lload 4, 2) := by decide +kernel
theorem dX1_wholeNear_125 : decode cX1_wholeNear 125 = .ok (.goto 10, 3) := by decide +kernel
theorem dX1_wholeNear_128 : decode cX1_wholeNear 128 = .ok (.lload 4, 2) := by decide +kernel
theorem dX1_wholeNear_130 : decode cX1_wholeNear 130 = .ok (.iload_n 2, 1) := by decide +kernel
theorem dX1_wholeNear_131 : decode cX1_wholeNear 131 = .ok (.iload_n 3, 1) := by decide +kernel
theorem dX1_wholeNear_132 : decode cX1_wholeNear 132 = .ok (.invokestatic 31, 3) := by decide +kernel
theorem dX1_wholeNear_135 : decode cX1_wholeNear 135 = .ok (.lreturn, 1) := by decide +kernel
set_option maxRecDepth 20000 in
theorem ggX1_nextWhole_X1_power : GoodIn wsX1_nextWhole wsX1_power := goodIn_r _ [4] (by decide +kernel) (by decide +kernel)
set_option maxRecDepth 20000 in
theorem gX1_nextWhole_X1_power : GoodIn wsX1_nextWhole (va_wsS RX1 23 yX1_power wsX1_power) := goodIn_app (goodIn_of _ (by decide +kernel)) ggX1_nextWhole_X1_power
theorem dX1_nextWhole_0 : decode cX1_nextWhole 0 = .ok (.lload_n 0, 1) := by decide +kernel
theorem dX1_nextWhole_1 : decode cX1_nextWhole 1 = .ok (.lconst 0, 1) := by decide +kernel
theorem dX1_nextWhole_2 : decode cX1_nextWhole 2 = .ok (.lcmp, 1) := by decide +kernel
theorem dX1_nextWhole_3 : decode cX1_nextWhole 3 = .ok (.ifCond .ne 8, 3) := by decide +kernel
theorem dX1_nextWhole_6 : decode cX1_nextWhole 6 = .ok (.iload_n 3, 1) := by decide +kernel
theorem dX1_nextWhole_7 : decode cX1_nextWhole 7 = .ok (.i2l, 1) := by decide +kernel
theorem dX1_nextWhole_8 : decode cX1_nextWhole 8 = .ok (.iload_n 2, 1) := by decide +kernel
theorem dX1_nextWhole_9 : decode cX1_nextWhole 9 = .ok (.lshl, 1) := by decide +kernel
theorem dX1_nextWhole_10 : decode cX1_nextWhole 10 = .ok (.lreturn, 1) := by decide +kernel
theorem dX1_nextWhole_11 : decode cX1_nextWhole 11 = .ok (.lload_n 0, 1) := by decide +kernel
theorem dX1_nextWhole_12 : decode cX1_nextWhole 12 = .ok (.lconst 1, 1) := by decide +kernel
theorem dX1_nextWhole_13 : decode cX1_nextWhole 13 = .ok (.iload_n 2, 1) := by decide +kernel
theorem dX1_nextWhole_14 : decode cX1_nextWhole 14 = .ok (.lload_n 0, 1) := by decide +kernel
theorem dX1_nextWhole_15 : decode cX1_nextWhole 15 = .ok (.iload_n 2, 1) := by decide +kernel
theorem dX1_nextWhole_16 : decode cX1_nextWhole 16 = .ok (.iload_n 3, 1) := by decide +kernel
theorem dX1_nextWhole_17 : decode cX1_nextWhole 17 = .ok (.invokestatic 23, 3) := by decide +kernel
theorem dX1_nextWhole_20 : decode cX1_nextWhole 20 = .ok (.isub, 1) := by decide +kernel
theorem dX1_nextWhole_21 : decode cX1_nextWhole 21 = .ok (.lshl, 1) := by decide +kernel
theorem dX1_nextWhole_22 : decode cX1_nextWhole 22 = .ok (.ladd, 1) := by decide +kernel
theorem dX1_nextWhole_23 : decode cX1_nextWhole 23 = .ok (.lreturn, 1) := by decide +kernel
theorem dX1_half_0 : decode cX1_half 0 = .ok (.lload_n 0, 1) := by decide +kernel
theorem dX1_half_1 : decode cX1_half 1 = .ok (.lload_n 3, 1) := by decide +kernel
theorem dX1_half_2 : decode cX1_half 2 = .ok (.lcmp, 1) := by decide +kernel
theorem dX1_half_3 : decode cX1_half 3 = .ok (.ifCond .ne 5, 3) := by decide +kernel
theorem dX1_half_6 : decode cX1_half 6 = .ok (.lload_n 0, 1) := by decide +kernel
theorem dX1_half_7 : decode cX1_half 7 = .ok (.lreturn, 1) := by decide +kernel
theorem dX1_half_8 : decode cX1_half 8 = .ok (.lconst 1, 1) := by decide +kernel
theorem dX1_half_9 : decode cX1_half 9 = .ok (.iload_n 2, 1) := by decide +kernel
theorem dX1_half_10 : decode cX1_half 10 = .ok (.lshl, 1) := by decide +kernel
theorem dX1_half_11 : decode cX1_half 11 = .ok (.lstore 5, 2) := by decide +kernel
theorem dX1_half_13 : decode cX1_half 13 = .ok (.lload_n 0, 1) := by decide +kernel
theorem dX1_half_14 : decode cX1_half 14 = .ok (.ldc2_w 34, 3) := by decide +kernel
theorem dX1_half_17 : decode cX1_half 17 = .ok (.lload 5, 2) := by decide +kernel
theorem dX1_half_19 : decode cX1_half 19 = .ok (.lmul, 1) := by decide +kernel
theorem dX1_half_20 : decode cX1_half 20 = .ok (.lcmp, 1) := by decide +kernel
theorem dX1_half_21 : decode cX1_half 21 = .ok (.ifCond .lt 8, 3) := by decide +kernel
theorem dX1_half_24 : decode cX1_half 24 = .ok (.lload_n 0, 1) := by decide +kernel
theorem dX1_half_25 : decode cX1_half 25 = .ok (.lload 5, 2) := by decide +kernel
theorem dX1_half_27 : decode cX1_half 27 = .ok (.lsub, 1) := by decide +kernel
theorem dX1_half_28 : decode cX1_half 28 = .ok (.lreturn, 1) := by decide +kernel
theorem dX1_half_29 : decode cX1_half 29 = .ok (.lload_n 0, 1) := by decide +kernel
theorem dX1_half_30 : decode cX1_half 30 = .ok (.iconst 1, 1) := by decide +kernel
theorem dX1_half_31 : decode cX1_half 31 = .ok (.lshr, 1) := by decide +kernel
theorem dX1_half_32 : decode cX1_half 32 = .ok (.lstore 7, 2) := by decide +kernel
theorem dX1_half_34 : decode cX1_half 34 = .ok (.lload_n 0, 1) := by decide +kernel
theorem dX1_half_35 : decode cX1_half 35 = .ok (.lconst 1, 1) := by decide +kernel
theorem dX1_half_36 : decode cX1_half 36 = .ok (.land, 1) := by decide +kernel
theorem dX1_half_37 : decode cX1_half 37 = .ok (.lconst 0, 1) := by decide +kernel
theorem dX1_half_38 : decode cX1_half 38 = .ok (.lcmp, 1) := by decide +kernel
theorem dX1_half_39 : decode cX1_half 39 = .ok (.ifCond .ne 8, 3) := by decide +kernel
theorem dX1_half_42 : decode cX1_half 42 = .ok (.lload 7, 2) := by decide +kernel
theorem dX1_half_44 : decode cX1_half 44 = .ok (.goto 10, 3) := by decide +kernel
theorem dX1_half_47 : decode cX1_half 47 = .ok (.lload 7, 2) := by decide +kernel
theorem dX1_half_49 : decode cX1_half 49 = .ok (.lload 7, 2) := by decide +kernel
theorem dX1_half_51 : decode cX1_half 51 = .ok (.lconst 1, 1) := by decide +kernel
theorem dX1_half_52 : decode cX1_half 52 = .ok (.land, 1) := by decide +kernel
theorem dX1_half_53 : decode cX1_half 53 = .ok (.ladd, 1) := by decide +kernel
theorem dX1_half_54 : decode cX1_half 54 = .ok (.lreturn, 1) := by decide +kernel
theorem dX1_twice_0 : decode cX1_twice 0 = .ok (.lload_n 0, 1) := by decide +kernel
theorem dX1_twice_1 : decode cX1_twice 1 = .ok (.lload_n 3, 1) := by decide +kernel
theorem dX1_twice_2 : decode cX1_twice 2 = .ok (.lcmp, 1) := by decide +kernel
theorem dX1_twice_3 : decode cX1_twice 3 = .ok (.ifCond .ne 5, 3) := by decide +kernel
theorem dX1_twice_6 : decode cX1_twice 6 = .ok (.lload_n 0, 1) := by decide +kernel
theorem dX1_twice_7 : decode cX1_twice 7 = .ok (.lreturn, 1) := by decide +kernel
theorem dX1_twice_8 : decode cX1_twice 8 = .ok (.lconst 1, 1) := by decide +kernel
theorem dX1_twice_9 : decode cX1_twice 9 = .ok (.iload_n 2, 1) := by decide +kernel
theorem dX1_twice_10 : decode cX1_twice 10 = .ok (.lshl, 1) := by decide +kernel
theorem dX1_twice_11 : decode cX1_twice 11 = .ok (.lstore 5, 2) := by decide +kernel
theorem dX1_twice_13 : decode cX1_twice 13 = .ok (.lload_n 0, 1) := by decide +kernel
theorem dX1_twice_14 : decode cX1_twice 14 = .ok (.lload 5, 2) := by decide +kernel
theorem dX1_twice_16 : decode cX1_twice 16 = .ok (.lcmp, 1) := by decide +kernel
theorem dX1_twice_17 : decode cX1_twice 17 = .ok (.ifCond .ge 7, 3) := by decide +kernel
theorem dX1_twice_20 : decode cX1_twice 20 = .ok (.lload_n 0, 1) := by decide +kernel
theorem dX1_twice_21 : decode cX1_twice 21 = .ok (.iconst 1, 1) := by decide +kernel
theorem dX1_twice_22 : decode cX1_twice 22 = .ok (.lshl, 1) := by decide +kernel
theorem dX1_twice_23 : decode cX1_twice 23 = .ok (.lreturn, 1) := by decide +kernel
theorem dX1_twice_24 : decode cX1_twice 24 = .ok (.lload_n 0, 1) := by decide +kernel
theorem dX1_twice_25 : decode cX1_twice 25 = .ok (.lload 5, 2) := by decide +kernel
theorem dX1_twice_27 : decode cX1_twice 27 = .ok (.ladd, 1) := by decide +kernel
theorem dX1_twice_28 : decode cX1_twice 28 = .ok (.lstore 7, 2) := by decide +kernel
theorem dX1_twice_30 : decode cX1_twice 30 = .ok (.lload 7, 2) := by decide +kernel
theorem dX1_twice_32 : decode cX1_twice 32 = .ok (.lload_n 3, 1) := by decide +kernel
theorem dX1_twice_33 : decode cX1_twice 33 = .ok (.lcmp, 1) := by decide +kernel
theorem dX1_twice_34 : decode cX1_twice 34 = .ok (.ifCond .le 7, 3) := by decide +kernel
theorem dX1_twice_37 : decode cX1_twice 37 = .ok (.lload_n 3, 1) := by decide +kernel
theorem dX1_twice_38 : decode cX1_twice 38 = .ok (.goto 5, 3) := by decide +kernel
theorem dX1_twice_41 : decode cX1_twice 41 = .ok (.lload 7, 2) := by decide +kernel
theorem dX1_twice_43 : decode cX1_twice 43 = .ok (.lreturn, 1) := by decide +kernel
set_option maxRecDepth 20000 in
theorem ggX2_init_X0_init : GoodIn wsX2_init wsX0_init := goodIn_r _ [26, 27, 2, 3, 6, 28, 29, 30, 31, 54, 55, 56, 57] (by decide +kernel) (by decide +kernel)
set_option maxRecDepth 20000 in
theorem gX2_init_X0_init_n49 : GoodIn wsX2_init (wsX0_init) := ggX2_init_X0_init
set_option maxRecDepth 20000 in
theorem ggX2_init_X2_stringAnew : GoodIn wsX2_init wsX2_stringAnew := goodIn_r _ [36, 13, 5, 7, 8, 9, 10, 37, 11, 38, 39, 40, 41, 42, 43, 44, 45, 46, 47, 48, 49, 50, 51, 52, 53] (by decide +kernel) (by decide +kernel)
set_option maxRecDepth 20000 in
theorem gX2_init_X2_stringAnew : GoodIn wsX2_init (wsV RX2 63 RX2 yX2_stringAnew wsX2_stringAnew) := goodIn_app (goodIn_of _ (by decide +kernel)) ggX2_init_X2_stringAnew
theorem dX2_init_0 : decode cX2_init 0 = .ok (.aload_n 0, 1) := by decide +kernel
theorem dX2_init_1 : decode cX2_init 1 = .ok (.invokespecial 1, 3) := by decide +kernel
theorem dX2_init_4 : decode cX2_init 4 = .ok (.aload_n 0, 1) := by decide +kernel
theorem dX2_init_5 : decode cX2_init 5 = .ok (.bipush 8, 2) := by decide +kernel
theorem dX2_init_7 : decode cX2_init 7 = .ok (.newarray .long, 2) := by decide +kernel
theorem dX2_init_9 : decode cX2_init 9 = .ok (.putfield 9, 3) := by decide +kernel
theorem dX2_init_12 : decode cX2_init 12 = .ok (.aload_n 0, 1) := by decide +kernel
theorem dX2_init_13 : decode cX2_init 13 = .ok (.bipush 8, 2) := by decide +kernel
theorem dX2_init_15 : decode cX2_init 15 = .ok (.newarray .int, 2) := by decide +kernel
theorem dX2_init_17 : decode cX2_init 17 = .ok (.putfield 13, 3) := by decide +kernel
theorem dX2_init_20 : decode cX2_init 20 = .ok (.aload_n 0, 1) := by decide +kernel
theorem dX2_init_21 : decode cX2_init 21 = .ok (.bipush 8, 2) := by decide +kernel
theorem dX2_init_23 : decode cX2_init 23 = .ok (.newarray .int, 2) := by decide +kernel
theorem dX2_init_25 : decode cX2_init 25 = .ok (.putfield 17, 3) := by decide +kernel
theorem dX2_init_28 : decode cX2_init 28 = .ok (.aload_n 0, 1) := by decide +kernel
theorem dX2_init_29 : decode cX2_init 29 = .ok (.bipush 8, 2) := by decide +kernel
theorem dX2_init_31 : decode cX2_init 31 = .ok (.newarray .long, 2) := by decide +kernel
theorem dX2_init_33 : decode cX2_init 33 = .ok (.putfield 20, 3) := by decide +kernel
theorem dX2_init_36 : decode cX2_init 36 = .ok (.aload_n 0, 1) := by decide +kernel
theorem dX2_init_37 : decode cX2_init 37 = .ok (.bipush 8, 2) := by decide +kernel
theorem dX2_init_39 : decode cX2_init 39 = .ok (.newarray .long, 2) := by decide +kernel
theorem dX2_init_41 : decode cX2_init 41 = .ok (.putfield 23, 3) := by decide +kernel
theorem dX2_init_44 : decode cX2_init 44 = .ok (.aload_n 0, 1) := by decide +kernel
theorem dX2_init_45 : decode cX2_init 45 = .ok (.bipush 8, 2) := by decide +kernel
theorem dX2_init_47 : decode cX2_init 47 = .ok (.newarray .long, 2) := by decide +kernel
theorem dX2_init_49 : decode cX2_init 49 = .ok (.putfield 26, 3) := by decide +kernel
theorem dX2_init_52 : decode cX2_init 52 = .ok (.aload_n 0, 1) := by decide +kernel
theorem dX2_init_53 : decode cX2_init 53 = .ok (.bipush 8, 2) := by decide +kernel
theorem dX2_init_55 : decode cX2_init 55 = .ok (.newarray .boolean, 2) := by decide +kernel
theorem dX2_init_57 : decode cX2_init 57 = .ok (.putfield 29, 3) := by decide +kernel
theorem dX2_init_60 : decode cX2_init 60 = .ok (.aload_n 0, 1) := by decide +kernel
theorem dX2_init_61 : decode cX2_init 61 = .ok (.lconst 0, 1) := by decide +kernel
theorem dX2_init_62 : decode cX2_init 62 = .ok (.putfield 33, 3) := by decide +kernel
theorem dX2_init_65 : decode cX2_init 65 = .ok (.aload_n 0, 1) := by decide +kernel
theorem dX2_init_66 : decode cX2_init 66 = .ok (.iconst 0, 1) := by decide +kernel
theorem dX2_init_67 : decode cX2_init 67 = .ok (.putfield 37, 3) := by decide +kernel
theorem dX2_init_70 : decode cX2_init 70 = .ok (.aload_n 0, 1) := by decide +kernel
theorem dX2_init_71 : decode cX2_init 71 = .ok (.iconst 0, 1) := by decide +kernel
theorem dX2_init_72 : decode cX2_init 72 = .ok (.putfield 41, 3) := by decide +kernel
theorem dX2_init_75 : decode cX2_init 75 = .ok (.aload_n 0, 1) := by decide +kernel
theorem dX2_init_76 : decode cX2_init 76 = .ok (.lconst 0, 1) := by decide +kernel
theorem dX2_init_77 : decode cX2_init 77 = .ok (.putfield 44, 3) := by decide +kernel
theorem dX2_init_80 : decode cX2_init 80 = .ok (.aload_n 0, 1) := by decide +kernel
theorem dX2_init_81 : decode cX2_init 81 = .ok (.new 47, 3) := by decide +kernel
theorem dX2_init_84 : decode cX2_init 84 = .ok (.dup, 1) := by decide +kernel
theorem dX2_init_85 : decode cX2_init 85 = .ok (.invokespecial 49, 3) := by decide +kernel
theorem dX2_init_88 : decode cX2_init 88 = .ok (.putfield 50, 3) := by decide +kernel
theorem dX2_init_91 : decode cX2_init 91 = .ok (.aload_n 0, 1) := by decide +kernel
theorem dX2_init_92 : decode cX2_init 92 = .ok (.iconst 0, 1) := by decide +kernel
theorem dX2_init_93 : decode cX2_init 93 = .ok (.putfield 54, 3) := by decide +kernel
theorem dX2_init_96 : decode cX2_init 96 = .ok (.aload_n 0, 1) := by decide +kernel
theorem dX2_init_97 : decode cX2_init 97 = .ok (.iconst 5, 1) := by decide +kernel
theorem dX2_init_98 : decode cX2_init 98 = .ok (.newarray .int, 2) := by decide +kernel
theorem dX2_init_100 : decode cX2_init 100 = .ok (.putfield 57, 3) := by decide +kernel
theorem dX2_init_103 : decode cX2_init 103 = .ok (.aload_n 0, 1) := by decide +kernel
theorem dX2_init_104 : decode cX2_init 104 = .ok (.iconst 5, 1) := by decide +kernel
theorem dX2_init_105 : decode cX2_init 105 = .ok (.newarray .int, 2) := by decide +kernel
theorem dX2_init_107 : decode cX2_init 107 = .ok (.putfield 60, 3) := by decide +kernel
theorem dX2_init_110 : decode cX2_init 110 = .ok (.iconst 0, 1) := by decide +kernel
theorem dX2_init_111 : decode cX2_init 111 = .ok (.istore_n 1, 1) := by decide +kernel
theorem dX2_init_112 : decode cX2_init 112 = .ok (.iload_n 1, 1) := by decide +kernel
theorem dX2_init_113 : decode cX2_init 113 = .ok (.bipush 8, 2) := by decide +kernel
theorem dX2_init_115 : decode cX2_init 115 = .ok (.if_icmp .ge 14, 3) := by decide +kernel
theorem dX2_init_118 : decode cX2_init 118 = .ok (.aload_n 0, 1) := by decide +kernel
theorem dX2_init_119 : decode cX2_init 119 = .ok (.iload_n 1, 1) := by decide +kernel
theorem dX2_init_120 : decode cX2_init 120 = .ok (.invokevirtual 63, 3) := by decide +kernel
theorem dX2_init_123 : decode cX2_init 123 = .ok (.iinc 1 1, 3) := by decide +kernel
theorem dX2_init_126 : decode cX2_init 126 = .ok (.goto (-14), 3) := by decide +kernel
theorem dX2_init_129 : decode cX2_init 129 = .ok (.return_, 1) := by decide +kernel
set_option maxRecDepth 20000 in
theorem ggX2_set_X2_refusalOfSetting : GoodIn wsX2_set wsX2_refusalOfSetting := goodIn_r _ [6, 7, 8, 9, 5, 10, 11, 12, 13, 14, 15, 16, 17, 18, 19, 20, 21, 22, 23, 24, 25, 26, 27, 28, 29, 40, 41, 42, 43, 44, 45, 46, 47, 48, 49, 50, 51, 52, 53, 54] (by decide +kernel) (by decide +kernel)
set_option maxRecDepth 20000 in
theorem gX2_set_X2_refusalOfSetting : GoodIn wsX2_set (wsV RX2 67 RX2 yX2_refusalOfSetting wsX2_refusalOfSetting) := goodIn_app (goodIn_of _ (by decide +kernel)) ggX2_set_X2_refusalOfSetting
set_option maxRecDepth 20000 in
theorem ggX2_set_X2_write : GoodIn wsX2_set wsX2_write := goodIn_r _ [33, 34, 35, 36, 37, 38, 39, 40, 41, 42, 43, 44, 45, 46, 47, 48, 49, 50, 51, 52, 53, 54] (by decide +kernel) (by decide +kernel)
set_option maxRecDepth 20000 in
theorem gX2_set_X2_write : GoodIn wsX2_set (wsV RX2 71 RX2 yX2_write wsX2_write) := goodIn_app (goodIn_of _ (by decide +kernel)) ggX2_set_X2_write
theorem dX2_set_0 : decode cX2_set 0 = .ok (.aload_n 0, 1) := by decide +kernel
theorem dX2_set_1 : decode cX2_set 1 = .ok (.aload_n 0, 1) := by decide +kernel
theorem dX2_set_2 : decode cX2_set 2 = .ok (.iload_n 1, 1) := by decide +kernel
theorem dX2_set_3 : decode cX2_set 3 = .ok (.iload_n 2, 1) := by decide +kernel
theorem dX2_set_4 : decode cX2_set 4 = .ok (.lload_n 3, 1) := by decide +kernel
theorem dX2_set_5 : decode cX2_set 5 = .ok (.invokevirtual 67, 3) := by decide +kernel
theorem dX2_set_8 : decode cX2_set 8 = .ok (.putfield 54, 3) := by decide +kernel
theorem dX2_set_11 : decode cX2_set 11 = .ok (.aload_n 0, 1) := by decide +kernel
theorem dX2_set_12 : decode cX2_set 12 = .ok (.getfield 54, 3) := by decide +kernel
theorem dX2_set_15 : decode cX2_set 15 = .ok (.ifCond .ne 10, 3) := by decide +kernel
theorem dX2_set_18 : decode cX2_set 18 = .ok (.aload_n 0, 1) := by decide +kernel
theorem dX2_set_19 : decode cX2_set 19 = .ok (.iload_n 1, 1) := by decide +kernel
theorem dX2_set_20 : decode cX2_set 20 = .ok (.iload_n 2, 1) := by decide +kernel
theorem dX2_set_21 : decode cX2_set 21 = .ok (.lload_n 3, 1) := by decide +kernel
theorem dX2_set_22 : decode cX2_set 22 = .ok (.invokevirtual 71, 3) := by decide +kernel
theorem dX2_set_25 : decode cX2_set 25 = .ok (.aload_n 0, 1) := by decide +kernel
theorem dX2_set_26 : decode cX2_set 26 = .ok (.getfield 54, 3) := by decide +kernel
theorem dX2_set_29 : decode cX2_set 29 = .ok (.ireturn, 1) := by decide +kernel
set_option maxRecDepth 20000 in
theorem ggX2_get_X2_refusalOfPart : GoodIn wsX2_get wsX2_refusalOfPart := goodIn_r _ [6, 7, 8, 9, 5, 10, 11, 22, 23, 24, 25, 26, 27, 28, 29, 30, 31, 32, 33, 34, 35, 36] (by decide +kernel) (by decide +kernel)
set_option maxRecDepth 20000 in
theorem gX2_get_X2_refusalOfPart : GoodIn wsX2_get (wsV RX2 75 RX2 yX2_refusalOfPart wsX2_refusalOfPart) := goodIn_app (goodIn_of _ (by decide +kernel)) ggX2_get_X2_refusalOfPart
set_option maxRecDepth 20000 in
theorem ggX2_get_X2_read : GoodIn wsX2_get wsX2_read := goodIn_r _ [15, 16, 17, 18, 19, 20, 21, 22, 23, 24, 25, 26, 27, 28, 29, 30, 31, 32, 33, 34, 35, 36] (by decide +kernel) (by decide +kernel)
set_option maxRecDepth 20000 in
theorem gX2_get_X2_read : GoodIn wsX2_get (wsV RX2 79 RX2 yX2_read wsX2_read) := goodIn_app (goodIn_of _ (by decide +kernel)) ggX2_get_X2_read
theorem dX2_get_0 : decode cX2_get 0 = .ok (.aload_n 0, 1) := by decide +kernel
theorem dX2_get_1 : decode cX2_get 1 = .ok (.aload_n 0, 1) := by decide +kernel
theorem dX2_get_2 : decode cX2_get 2 = .ok (.iload_n 1, 1) := by decide +kernel
theorem dX2_get_3 : decode cX2_get 3 = .ok (.iload_n 2, 1) := by decide +kernel
theorem dX2_get_4 : decode cX2_get 4 = .ok (.invokevirtual 75, 3) := by decide +kernel
theorem dX2_get_7 : decode cX2_get 7 = .ok (.putfield 54, 3) := by decide +kernel
theorem dX2_get_10 : decode cX2_get 10 = .ok (.aload_n 0, 1) := by decide +kernel
theorem dX2_get_11 : decode cX2_get 11 = .ok (.getfield 54, 3) := by decide +kernel
theorem dX2_get_14 : decode cX2_get 14 = .ok (.ifCond .ne 12, 3) := by decide +kernel
theorem dX2_get_17 : decode cX2_get 17 = .ok (.aload_n 0, 1) := by decide +kernel
theorem dX2_get_18 : decode cX2_get 18 = .ok (.iload_n 1, 1) := by decide +kernel
theorem dX2_get_19 : decode cX2_get 19 = .ok (.iload_n 2, 1) := by decide +kernel
theorem dX2_get_20 : decode cX2_get 20 = .ok (.invokevirtual 79, 3) := by decide +kernel
theorem dX2_get_23 : decode cX2_get 23 = .ok (.goto 4, 3) := by decide +kernel
theorem dX2_get_26 : decode cX2_get 26 = .ok (.lconst 0, 1) := by decide +kernel
theorem dX2_get_27 : decode cX2_get 27 = .ok (.lreturn, 1) := by decide +kernel
theorem dX2_refused_0 : decode cX2_refused 0 = .ok (.aload_n 0, 1) := by decide +kernel
theorem dX2_refused_1 : decode cX2_refused 1 = .ok (.getfield 54, 3) := by decide +kernel
theorem dX2_refused_4 : decode cX2_refused 4 = .ok (.ireturn, 1) := by decide +kernel
set_option maxRecDepth 20000 in
theorem ggX2_cut_X2_refusalOfThread : GoodIn wsX2_cut wsX2_refusalOfThread := goodIn_r _ [7, 2, 8, 9, 10, 11, 12, 13, 14, 15, 16, 17, 18, 19, 20, 21, 22] (by decide +kernel) (by decide +kernel)
set_option maxRecDepth 20000 in
theorem gX2_cut_X2_refusalOfThread : GoodIn wsX2_cut (wsV RX2 83 RX2 yX2_refusalOfThread wsX2_refusalOfThread) := goodIn_app (goodIn_of _ (by decide +kernel)) ggX2_cut_X2_refusalOfThread
theorem dX2_cut_0 : decode cX2_cut 0 = .ok (.aload_n 0, 1) := by decide +kernel
theorem dX2_cut_1 : decode cX2_cut 1 = .ok (.aload_n 0, 1) := by decide +kernel
theorem dX2_cut_2 : decode cX2_cut 2 = .ok (.iload_n 1, 1) := by decide +kernel
theorem dX2_cut_3 : decode cX2_cut 3 = .ok (.invokevirtual 83, 3) := by decide +kernel
theorem dX2_cut_6 : decode cX2_cut 6 = .ok (.putfield 54, 3) := by decide +kernel
theorem dX2_cut_9 : decode cX2_cut 9 = .ok (.aload_n 0, 1) := by decide +kernel
theorem dX2_cut_10 : decode cX2_cut 10 = .ok (.getfield 54, 3) := by decide +kernel
theorem dX2_cut_13 : decode cX2_cut 13 = .ok (.ifCond .ne 10, 3) := by decide +kernel
theorem dX2_cut_16 : decode cX2_cut 16 = .ok (.aload_n 0, 1) := by decide +kernel
theorem dX2_cut_17 : decode cX2_cut 17 = .ok (.getfield 29, 3) := by decide +kernel
theorem dX2_cut_20 : decode cX2_cut 20 = .ok (.iload_n 1, 1) := by decide +kernel
theorem dX2_cut_21 : decode cX2_cut 21 = .ok (.iconst 1, 1) := by decide +kernel
theorem dX2_cut_22 : decode cX2_cut 22 = .ok (.bastore, 1) := by decide +kernel
theorem dX2_cut_23 : decode cX2_cut 23 = .ok (.aload_n 0, 1) := by decide +kernel
theorem dX2_cut_24 : decode cX2_cut 24 = .ok (.getfield 54, 3) := by decide +kernel
theorem dX2_cut_27 : decode cX2_cut 27 = .ok (.ireturn, 1) := by decide +kernel
set_option maxRecDepth 20000 in
theorem ggX2_string_X2_refusalOfStringing : GoodIn wsX2_string wsX2_refusalOfStringing := goodIn_r _ [6, 7, 8, 9, 5, 10, 11, 24, 25, 26, 27, 28, 29, 30, 31, 32, 33, 34, 35, 36, 37, 38] (by decide +kernel) (by decide +kernel)
set_option maxRecDepth 20000 in
theorem gX2_string_X2_refusalOfStringing : GoodIn wsX2_string (wsV RX2 87 RX2 yX2_refusalOfStringing wsX2_refusalOfStringing) := goodIn_app (goodIn_of _ (by decide +kernel)) ggX2_string_X2_refusalOfStringing
set_option maxRecDepth 20000 in
theorem ggX2_string_X2_stringAnew : GoodIn wsX2_string wsX2_stringAnew := goodIn_r _ [15, 11, 16, 17, 18, 19, 20, 21, 22, 23, 24, 25, 26, 27, 28, 29, 30, 31, 32, 33, 34, 35, 36, 37, 38] (by decide +kernel) (by decide +kernel)
set_option maxRecDepth 20000 in
theorem gX2_string_X2_stringAnew : GoodIn wsX2_string (wsV RX2 63 RX2 yX2_stringAnew wsX2_stringAnew) := goodIn_app (goodIn_of _ (by decide +kernel)) ggX2_string_X2_stringAnew
theorem dX2_string_0 : decode cX2_string 0 = .ok (.aload_n 0, 1) := by decide +kernel
theorem dX2_string_1 : decode cX2_string 1 = .ok (.aload_n 0, 1) := by decide +kernel
theorem dX2_string_2 : decode cX2_string 2 = .ok (.iload_n 1, 1) := by decide +kernel
theorem dX2_string_3 : decode cX2_string 3 = .ok (.invokevirtual 87, 3) := by decide +kernel
theorem dX2_string_6 : decode cX2_string 6 = .ok (.putfield 54, 3) := by decide +kernel
theorem dX2_string_9 : decode cX2_string 9 = .ok (.aload_n 0, 1) := by decide +kernel
theorem dX2_string_10 : decode cX2_string 10 = .ok (.getfield 54, 3) := by decide +kernel
theorem dX2_string_13 : decode cX2_string 13 = .ok (.ifCond .ne 8, 3) := by decide +kernel
theorem dX2_string_16 : decode cX2_string 16 = .ok (.aload_n 0, 1) := by decide +kernel
theorem dX2_string_17 : decode cX2_string 17 = .ok (.iload_n 1, 1) := by decide +kernel
theorem dX2_string_18 : decode cX2_string 18 = .ok (.invokevirtual 63, 3) := by decide +kernel
theorem dX2_string_21 : decode cX2_string 21 = .ok (.aload_n 0, 1) := by decide +kernel
theorem dX2_string_22 : decode cX2_string 22 = .ok (.getfield 54, 3) := by decide +kernel
theorem dX2_string_25 : decode cX2_string 25 = .ok (.ireturn, 1) := by decide +kernel
set_option maxRecDepth 20000 in
theorem ggX2_move_X2_refusalOfMove : GoodIn wsX2_move wsX2_refusalOfMove := goodIn_r _ [7, 8, 9, 10, 6, 11, 12, 13, 14, 15, 195, 196, 197, 198, 199, 200, 201, 202, 203, 204, 205, 206, 207, 208, 209] (by decide +kernel) (by decide +kernel)
set_option maxRecDepth 20000 in
theorem gX2_move_X2_refusalOfMove : GoodIn wsX2_move (wsV RX2 90 RX2 yX2_refusalOfMove wsX2_refusalOfMove) := goodIn_app (goodIn_of _ (by decide +kernel)) ggX2_move_X2_refusalOfMove
set_option maxRecDepth 20000 in
theorem ggX2_move_X2_clearChanges : GoodIn wsX2_move wsX2_clearChanges := goodIn_r _ [19, 2, 195, 196, 197, 198, 199, 200, 201, 202, 203, 204, 205, 206, 207, 208, 209] (by decide +kernel) (by decide +kernel)
set_option maxRecDepth 20000 in
theorem gX2_move_X2_clearChanges : GoodIn wsX2_move (wsV RX2 94 RX2 yX2_clearChanges wsX2_clearChanges) := goodIn_app (goodIn_of _ (by decide +kernel)) ggX2_move_X2_clearChanges
set_option maxRecDepth 20000 in
theorem ggX2_move_X2_perform : GoodIn wsX2_move wsX2_perform := goodIn_r _ [23, 24, 25, 26, 27, 28, 6, 29, 30, 31, 32, 33, 34, 35, 36, 37, 38, 39, 40, 41, 42, 43, 44, 45, 46, 47, 2, 48, 49, 50, 51, 52, 53, 54, 55, 56, 57, 58, 59, 60, 61, 62, 63, 64, 65, 66, 67, 68, 69, 70, 71, 72, 73, 74, 75, 76, 77, 78, 79, 80, 81, 82, 83, 84, 85, 86, 87, 88, 89, 90, 91, 92, 93, 94, 95, 96, 97, 98, 99, 100, 101, 102, 103, 104, 105, 106, 107, 108, 109, 110, 111, 112, 113, 114, 115, 116, 117, 118, 119, 120, 121, 122, 123, 124, 125, 126, 127, 128, 129, 130, 131, 132, 133, 134, 135, 136, 137, 138, 139, 140, 141, 142, 143, 144, 145, 146, 147, 148, 149, 150, 151, 152, 153, 154, 155, 156, 157, 158, 159, 160, 161, 162, 163, 164, 165, 166, 167, 168, 169, 170, 171, 172, 173, 174, 175, 176, 177, 178, 179, 180, 181, 182, 183, 184, 185, 186, 187, 188, 189, 190, 191, 192, 193, 194, 195, 196, 197, 198, 199, 200, 201, 202, 203, 204, 205, 206, 207, 208, 209] (by decide +kernel) (by decide +kernel)
set_option maxRecDepth 20000 in
theorem gX2_move_X2_perform : GoodIn wsX2_move (wsV RX2 97 RX2 yX2_perform wsX2_perform) := goodIn_app (goodIn_of _ (by decide +kernel)) ggX2_move_X2_perform
theorem dX2_move_0 : decode cX2_move 0 = .ok (.aload_n 0, 1) := by decide +kernel
theorem dX2_move_1 : decode cX2_move 1 = .ok (.aload_n 0, 1) := by decide +kernel
theorem dX2_move_2 : decode cX2_move 2 = .ok (.iload_n 1, 1) := by decide +kernel
theorem dX2_move_3 : decode cX2_move 3 = .ok (.iload_n 2, 1) := by decide +kernel
theorem dX2_move_4 : decode cX2_move 4 = .ok (.iload_n 3, 1) := by decide +kernel
theorem dX2_move_5 : decode cX2_move 5 = .ok (.invokevirtual 90, 3) := by decide +kernel
theorem dX2_move_8 : decode cX2_move 8 = .ok (.putfield 54, 3) := by decide +kernel
theorem dX2_move_11 : decode cX2_move 11 = .ok (.aload_n 0, 1) := by decide +kernel
theorem dX2_move_12 : decode cX2_move 12 = .ok (.getfield 54, 3) := by decide +kernel
theorem dX2_move_15 : decode cX2_move 15 = .ok (.ifCond .eq 5, 3) := by decide +kernel
theorem dX2_move_18 : decode cX2_move 18 = .ok (.iconst (-1), 1) := by decide +kernel
theorem dX2_move_19 : decode cX2_move 19 = .ok (.ireturn, 1) := by decide +kernel
theorem dX2_move_20 : decode cX2_move 20 = .ok (.aload_n 0, 1) := by decide +kernel
theorem dX2_move_21 : decode cX2_move 21 = .ok (.invokevirtual 94, 3) := by decide +kernel
theorem dX2_move_24 : decode cX2_move 24 = .ok (.aload_n 0, 1) := by decide +kernel
theorem dX2_move_25 : decode cX2_move 25 = .ok (.iload_n 1, 1) := by decide +kernel
theorem dX2_move_26 : decode cX2_move 26 = .ok (.iload_n 2, 1) := by decide +kernel
theorem dX2_move_27 : decode cX2_move 27 = .ok (.iload_n 3, 1) := by decide +kernel
theorem dX2_move_28 : decode cX2_move 28 = .ok (.invokevirtual 97, 3) := by decide +kernel
theorem dX2_move_31 : decode cX2_move 31 = .ok (.aload_n 0, 1) := by decide +kernel
theorem dX2_move_32 : decode cX2_move 32 = .ok (.getfield 57, 3) := by decide +kernel
theorem dX2_move_35 : decode cX2_move 35 = .ok (.iconst 1, 1) := by decide +kernel
theorem dX2_move_36 : decode cX2_move 36 = .ok (.iaload, 1) := by decide +kernel
theorem dX2_move_37 : decode cX2_move 37 = .ok (.aload_n 0, 1) := by decide +kernel
theorem dX2_move_38 : decode cX2_move 38 = .ok (.getfield 57, 3) := by decide +kernel
theorem dX2_move_41 : decode cX2_move 41 = .ok (.iconst 2, 1) := by decide +kernel
theorem dX2_move_42 : decode cX2_move 42 = .ok (.iaload, 1) := by decide +kernel
theorem dX2_move_43 : decode cX2_move 43 = .ok (.iadd, 1) := by decide +kernel
theorem dX2_move_44 : decode cX2_move 44 = .ok (.aload_n 0, 1) := by decide +kernel
theorem dX2_move_45 : decode cX2_move 45 = .ok (.getfield 57, 3) := by decide +kernel
theorem dX2_move_48 : decode cX2_move 48 = .ok (.iconst 3, 1) := by decide +kernel
theorem dX2_move_49 : decode cX2_move 49 = .ok (.iaload, 1) := by decide +kernel
theorem dX2_move_50 : decode cX2_move 50 = .ok (.iadd, 1) := by decide +kernel
theorem dX2_move_51 : decode cX2_move 51 = .ok (.aload_n 0, 1) := by decide +kernel
theorem dX2_move_52 : decode cX2_move 52 = .ok (.getfield 57, 3) := by decide +kernel
theorem dX2_move_55 : decode cX2_move 55 = .ok (.iconst 4, 1) := by decide +kernel
theorem dX2_move_56 : decode cX2_move 56 = .ok (.iaload, 1) := by decide +kernel
theorem dX2_move_57 : decode cX2_move 57 = .ok (.iadd, 1) := by decide +kernel
theorem dX2_move_58 : decode cX2_move 58 = .ok (.ireturn, 1) := by decide +kernel
theorem dX2_step_0 : decode cX2_step 0 = .ok (.aload_n 0, 1) := by decide +kernel
theorem dX2_step_1 : decode cX2_step 1 = .ok (.getfield 50, 3) := by decide +kernel
theorem dX2_step_4 : decode cX2_step 4 = .ok (.getfield 101, 3) := by decide +kernel
theorem dX2_step_7 : decode cX2_step 7 = .ok (.istore 4, 2) := by decide +kernel
theorem dX2_step_9 : decode cX2_step 9 = .ok (.iload 4, 2) := by decide +kernel
theorem dX2_step_11 : decode cX2_step 11 = .ok (.ifCond .lt 10, 3) := by decide +kernel
theorem dX2_step_14 : decode cX2_step 14 = .ok (.iload 4, 2) := by decide +kernel
theorem dX2_step_16 : decode cX2_step 16 = .ok (.bipush 40, 2) := by decide +kernel
theorem dX2_step_18 : decode cX2_step 18 = .ok (.if_icmp .lt 5, 3) := by decide +kernel
theorem dX2_step_21 : decode cX2_step 21 = .ok (.iconst (-1), 1) := by decide +kernel
theorem dX2_step_22 : decode cX2_step 22 = .ok (.ireturn, 1) := by decide +kernel
theorem dX2_step_23 : decode cX2_step 23 = .ok (.aload_n 0, 1) := by decide +kernel
theorem dX2_step_24 : decode cX2_step 24 = .ok (.getfield 50, 3) := by decide +kernel
theorem dX2_step_27 : decode cX2_step 27 = .ok (.getfield 104, 3) := by decide +kernel
theorem dX2_step_30 : decode cX2_step 30 = .ok (.iload 4, 2) := by decide +kernel
theorem dX2_step_32 : decode cX2_step 32 = .ok (.iload_n 1, 1) := by decide +kernel
theorem dX2_step_33 : decode cX2_step 33 = .ok (.iastore, 1) := by decide +kernel
theorem dX2_step_34 : decode cX2_step 34 = .ok (.aload_n 0, 1) := by decide +kernel
theorem dX2_step_35 : decode cX2_step 35 = .ok (.getfield 50, 3) := by decide +kernel
theorem dX2_step_38 : decode cX2_step 38 = .ok (.getfield 107, 3) := by decide +kernel
theorem dX2_step_41 : decode cX2_step 41 = .ok (.iload 4, 2) := by decide +kernel
theorem dX2_step_43 : decode cX2_step 43 = .ok (.iload_n 2, 1) := by decide +kernel
theorem dX2_step_44 : decode cX2_step 44 = .ok (.iastore, 1) := by decide +kernel
theorem dX2_step_45 : decode cX2_step 45 = .ok (.aload_n 0, 1) := by decide +kernel
theorem dX2_step_46 : decode cX2_step 46 = .ok (.getfield 50, 3) := by decide +kernel
theorem dX2_step_49 : decode cX2_step 49 = .ok (.getfield 110, 3) := by decide +kernel
theorem dX2_step_52 : decode cX2_step 52 = .ok (.iload 4, 2) := by decide +kernel
theorem dX2_step_54 : decode cX2_step 54 = .ok (.iload_n 3, 1) := by decide +kernel
theorem dX2_step_55 : decode cX2_step 55 = .ok (.iastore, 1) := by decide +kernel
theorem dX2_step_56 : decode cX2_step 56 = .ok (.aload_n 0, 1) := by decide +kernel
theorem dX2_step_57 : decode cX2_step 57 = .ok (.getfield 50, 3) := by decide +kernel
theorem dX2_step_60 : decode cX2_step 60 = .ok (.iload 4, 2) := by decide +kernel
theorem dX2_step_62 : decode cX2_step 62 = .ok (.iconst 1, 1) := by decide +kernel
theorem dX2_step_63 : decode cX2_step 63 = .ok (.iadd, 1) := by decide +kernel
theorem dX2_step_64 : decode cX2_step 64 = .ok (.putfield 101, 3) := by decide +kernel
theorem dX2_step_67 : decode cX2_step 67 = .ok (.aload_n 0, 1) := by decide +kernel
theorem dX2_step_68 : decode cX2_step 68 = .ok (.getfield 50, 3) := by decide +kernel
theorem dX2_step_71 : decode cX2_step 71 = .ok (.getfield 101, 3) := by decide +kernel
theorem dX2_step_74 : decode cX2_step 74 = .ok (.ireturn, 1) := by decide +kernel
theorem dX2_forget_0 : decode cX2_forget 0 = .ok (.aload_n 0, 1) := by decide +kernel
theorem dX2_forget_1 : decode cX2_forget 1 = .ok (.getfield 50, 3) := by decide +kernel
theorem dX2_forget_4 : decode cX2_forget 4 = .ok (.getfield 101, 3) := by decide +kernel
theorem dX2_forget_7 : decode cX2_forget 7 = .ok (.istore_n 1, 1) := by decide +kernel
theorem dX2_forget_8 : decode cX2_forget 8 = .ok (.aload_n 0, 1) := by decide +kernel
theorem dX2_forget_9 : decode cX2_forget 9 = .ok (.getfield 50, 3) := by decide +kernel
theorem dX2_forget_12 : decode cX2_forget 12 = .ok (.iconst 0, 1) := by decide +kernel
theorem dX2_forget_13 : decode cX2_forget 13 = .ok (.putfield 101, 3) := by decide +kernel
theorem dX2_forget_16 : decode cX2_forget 16 = .ok (.iload_n 1, 1) := by decide +kernel
theorem dX2_forget_17 : decode cX2_forget 17 = .ok (.ireturn, 1) := by decide +kernel
set_option maxRecDepth 20000 in
theorem ggX2_dance_X2_clearChanges : GoodIn wsX2_dance wsX2_clearChanges := goodIn_r _ [6, 7, 209, 210, 211, 212, 213, 214, 215, 216, 217, 218, 219, 220, 221, 222, 223] (by decide +kernel) (by decide +kernel)
set_option maxRecDepth 20000 in
theorem gX2_dance_X2_clearChanges : GoodIn wsX2_dance (wsV RX2 94 RX2 yX2_clearChanges wsX2_clearChanges) := goodIn_app (goodIn_of _ (by decide +kernel)) ggX2_dance_X2_clearChanges
set_option maxRecDepth 20000 in
theorem ggX2_dance_X2_danceOnce : GoodIn wsX2_dance wsX2_danceOnce := goodIn_r _ [11, 12, 13, 14, 15, 16, 1, 17, 18, 19, 5, 20, 21, 22, 23, 24, 25, 26, 27, 28, 29, 30, 31, 32, 33, 34, 35, 36, 37, 38, 39, 40, 41, 42, 43, 44, 45, 46, 47, 48, 49, 50, 51, 52, 53, 54, 55, 56, 7, 57, 58, 59, 60, 61, 62, 63, 64, 65, 66, 67, 68, 69, 70, 71, 72, 73, 74, 75, 76, 77, 78, 79, 80, 81, 82, 83, 84, 85, 86, 87, 88, 89, 90, 91, 92, 93, 94, 95, 96, 97, 98, 99, 100, 101, 102, 103, 104, 105, 106, 107, 108, 109, 110, 111, 112, 113, 114, 115, 116, 117, 118, 119, 120, 121, 122, 123, 124, 125, 126, 127, 128, 129, 130, 131, 132, 133, 134, 135, 136, 137, 138, 139, 140, 141, 142, 143, 144, 145, 146, 147, 148, 149, 150, 151, 152, 153, 154, 155, 156, 157, 158, 159, 160, 161, 162, 163, 164, 165, 166, 167, 168, 169, 170, 171, 172, 173, 174, 175, 176, 177, 178, 179, 180, 181, 182, 183, 184, 185, 186, 187, 188, 189, 190, 191, 192, 193, 194, 195, 196, 197, 198, 199, 200, 201, 202, 203, 209, 210, 211, 212, 213, 214, 215, 216, 217, 218, 219, 220, 221, 222, 223, 224, 225, 226, 227] (by decide +kernel) (by decide +kernel)
set_option maxRecDepth 20000 in
theorem gX2_dance_X2_danceOnce : GoodIn wsX2_dance (wsV RX2 113 RX2 yX2_danceOnce wsX2_danceOnce) := goodIn_app (goodIn_of _ (by decide +kernel)) ggX2_dance_X2_danceOnce
set_option maxRecDepth 20000 in
theorem ggX2_dance_X2_keepDance : GoodIn wsX2_dance wsX2_keepDance := goodIn_r _ [207, 208, 7, 209, 210, 211, 212, 213, 214, 215, 216, 217, 218, 219, 220, 221, 222, 223] (by decide +kernel) (by decide +kernel)
set_option maxRecDepth 20000 in
theorem gX2_dance_X2_keepDance : GoodIn wsX2_dance (wsV RX2 117 RX2 yX2_keepDance wsX2_keepDance) := goodIn_app (goodIn_of _ (by decide +kernel)) ggX2_dance_X2_keepDance
theorem dX2_dance_0 : decode cX2_dance 0 = .ok (.aload_n 0, 1) := by decide +kernel
theorem dX2_dance_1 : decode cX2_dance 1 = .ok (.iconst 0, 1) := by decide +kernel
theorem dX2_dance_2 : decode cX2_dance 2 = .ok (.putfield 54, 3) := by decide +kernel
theorem dX2_dance_5 : decode cX2_dance 5 = .ok (.iload_n 1, 1) := by decide +kernel
theorem dX2_dance_6 : decode cX2_dance 6 = .ok (.ifCond .lt 9, 3) := by decide +kernel
theorem dX2_dance_9 : decode cX2_dance 9 = .ok (.iload_n 1, 1) := by decide +kernel
theorem dX2_dance_10 : decode cX2_dance 10 = .ok (.bipush 50, 2) := by decide +kernel
theorem dX2_dance_12 : decode cX2_dance 12 = .ok (.if_icmp .le 5, 3) := by decide +kernel
theorem dX2_dance_15 : decode cX2_dance 15 = .ok (.iconst (-1), 1) := by decide +kernel
theorem dX2_dance_16 : decode cX2_dance 16 = .ok (.ireturn, 1) := by decide +kernel
theorem dX2_dance_17 : decode cX2_dance 17 = .ok (.aload_n 0, 1) := by decide +kernel
theorem dX2_dance_18 : decode cX2_dance 18 = .ok (.invokevirtual 94, 3) := by decide +kernel
theorem dX2_dance_21 : decode cX2_dance 21 = .ok (.iconst 0, 1) := by decide +kernel
theorem dX2_dance_22 : decode cX2_dance 22 = .ok (.istore_n 2, 1) := by decide +kernel
theorem dX2_dance_23 : decode cX2_dance 23 = .ok (.iconst (-1), 1) := by decide +kernel
theorem dX2_dance_24 : decode cX2_dance 24 = .ok (.istore_n 3, 1) := by decide +kernel
theorem dX2_dance_25 : decode cX2_dance 25 = .ok (.iconst 0, 1) := by decide +kernel
theorem dX2_dance_26 : decode cX2_dance 26 = .ok (.istore 4, 2) := by decide +kernel
theorem dX2_dance_28 : decode cX2_dance 28 = .ok (.iload 4, 2) := by decide +kernel
theorem dX2_dance_30 : decode cX2_dance 30 = .ok (.iload_n 1, 1) := by decide +kernel
theorem dX2_dance_31 : decode cX2_dance 31 = .ok (.if_icmp .ge 35, 3) := by decide +kernel
theorem dX2_dance_34 : decode cX2_dance 34 = .ok (.iload_n 3, 1) := by decide +kernel
theorem dX2_dance_35 : decode cX2_dance 35 = .ok (.iconst (-1), 1) := by decide +kernel
theorem dX2_dance_36 : decode cX2_dance 36 = .ok (.if_icmp .ne 30, 3) := by decide +kernel
theorem dX2_dance_39 : decode cX2_dance 39 = .ok (.aload_n 0, 1) := by decide +kernel
theorem dX2_dance_40 : decode cX2_dance 40 = .ok (.invokevirtual 113, 3) := by decide +kernel
theorem dX2_dance_43 : decode cX2_dance 43 = .ok (.istore 5, 2) := by decide +kernel
theorem dX2_dance_45 : decode cX2_dance 45 = .ok (.iload_n 2, 1) := by decide +kernel
theorem dX2_dance_46 : decode cX2_dance 46 = .ok (.iload 5, 2) := by decide +kernel
theorem dX2_dance_48 : decode cX2_dance 48 = .ok (.iadd, 1) := by decide +kernel
theorem dX2_dance_49 : decode cX2_dance 49 = .ok (.istore_n 2, 1) := by decide +kernel
theorem dX2_dance_50 : decode cX2_dance 50 = .ok (.aload_n 0, 1) := by decide +kernel
theorem dX2_dance_51 : decode cX2_dance 51 = .ok (.getfield 54, 3) := by decide +kernel
theorem dX2_dance_54 : decode cX2_dance 54 = .ok (.ifCond .eq 6, 3) := by decide +kernel
theorem dX2_dance_57 : decode cX2_dance 57 = .ok (.iload 5, 2) := by decide +kernel
theorem dX2_dance_59 : decode cX2_dance 59 = .ok (.istore_n 3, 1) := by decide +kernel
theorem dX2_dance_60 : decode cX2_dance 60 = .ok (.iinc 4 1, 3) := by decide +kernel
theorem dX2_dance_63 : decode cX2_dance 63 = .ok (.goto (-35), 3) := by decide +kernel
theorem dX2_dance_66 : decode cX2_dance 66 = .ok (.aload_n 0, 1) := by decide +kernel
theorem dX2_dance_67 : decode cX2_dance 67 = .ok (.iload_n 3, 1) := by decide +kernel
theorem dX2_dance_68 : decode cX2_dance 68 = .ok (.invokevirtual 117, 3) := by decide +kernel
theorem dX2_dance_71 : decode cX2_dance 71 = .ok (.iload_n 2, 1) := by decide +kernel
theorem dX2_dance_72 : decode cX2_dance 72 = .ok (.ireturn, 1) := by decide +kernel
theorem dX2_danced_0 : decode cX2_danced 0 = .ok (.iload_n 1, 1) := by decide +kernel
theorem dX2_danced_1 : decode cX2_danced 1 = .ok (.ifCond .lt 17, 3) := by decide +kernel
theorem dX2_danced_4 : decode cX2_danced 4 = .ok (.iload_n 1, 1) := by decide +kernel
theorem dX2_danced_5 : decode cX2_danced 5 = .ok (.iconst 5, 1) := by decide +kernel
theorem dX2_danced_6 : decode cX2_danced 6 = .ok (.if_icmp .ge 12, 3) := by decide +kernel
theorem dX2_danced_9 : decode cX2_danced 9 = .ok (.aload_n 0, 1) := by decide +kernel
theorem dX2_danced_10 : decode cX2_danced 10 = .ok (.getfield 60, 3) := by decide +kernel
theorem dX2_danced_13 : decode cX2_danced 13 = .ok (.iload_n 1, 1) := by decide +kernel
theorem dX2_danced_14 : decode cX2_danced 14 = .ok (.iaload, 1) := by decide +kernel
theorem dX2_danced_15 : decode cX2_danced 15 = .ok (.goto 4, 3) := by decide +kernel
theorem dX2_danced_18 : decode cX2_danced 18 = .ok (.iconst (-1), 1) := by decide +kernel
theorem dX2_danced_19 : decode cX2_danced 19 = .ok (.ireturn, 1) := by decide +kernel
theorem dX2_bar_0 : decode cX2_bar 0 = .ok (.iload_n 1, 1) := by decide +kernel
theorem dX2_bar_1 : decode cX2_bar 1 = .ok (.tableswitch 53 0 3 #[31, 36, 42, 48], 31) := by decide +kernel
theorem dX2_bar_32 : decode cX2_bar 32 = .ok (.aload_n 0, 1) := by decide +kernel
theorem dX2_bar_33 : decode cX2_bar 33 = .ok (.getfield 33, 3) := by decide +kernel
theorem dX2_bar_36 : decode cX2_bar 36 = .ok (.lreturn, 1) := by decide +kernel
theorem dX2_bar_37 : decode cX2_bar 37 = .ok (.aload_n 0, 1) := by decide +kernel
theorem dX2_bar_38 : decode cX2_bar 38 = .ok (.getfield 37, 3) := by decide +kernel
theorem dX2_bar_41 : decode cX2_bar 41 = .ok (.i2l, 1) := by decide +kernel
theorem dX2_bar_42 : decode cX2_bar 42 = .ok (.lreturn, 1) := by decide +kernel
theorem dX2_bar_43 : decode cX2_bar 43 = .ok (.aload_n 0, 1) := by decide +kernel
theorem dX2_bar_44 : decode cX2_bar 44 = .ok (.getfield 41, 3) := by decide +kernel
theorem dX2_bar_47 : decode cX2_bar 47 = .ok (.i2l, 1) := by decide +kernel
theorem dX2_bar_48 : decode cX2_bar 48 = .ok (.lreturn, 1) := by decide +kernel
theorem dX2_bar_49 : decode cX2_bar 49 = .ok (.aload_n 0, 1) := by decide +kernel
theorem dX2_bar_50 : decode cX2_bar 50 = .ok (.getfield 44, 3) := by decide +kernel
theorem dX2_bar_53 : decode cX2_bar 53 = .ok (.lreturn, 1) := by decide +kernel
theorem dX2_bar_54 : decode cX2_bar 54 = .ok (.lconst 0, 1) := by decide +kernel
theorem dX2_bar_55 : decode cX2_bar 55 = .ok (.lreturn, 1) := by decide +kernel
set_option maxRecDepth 20000 in
theorem ggX2_order_X2_placeOf : GoodIn wsX2_order wsX2_placeOf := goodIn_r _ [5, 6, 7, 8, 4, 9, 10, 11, 12, 13, 14, 15, 16, 17, 18, 19, 20, 21, 22, 23, 24, 25, 26, 27, 28, 29, 30, 31, 32, 33, 34, 35, 36, 37, 38, 39, 40, 41, 42, 43, 44, 45, 46, 47, 48, 49, 50] (by decide +kernel) (by decide +kernel)
set_option maxRecDepth 20000 in
theorem gX2_order_X2_placeOf : GoodIn wsX2_order (wsV RX2 120 RX2 yX2_placeOf wsX2_placeOf) := goodIn_app (goodIn_of _ (by decide +kernel)) ggX2_order_X2_placeOf
theorem dX2_order_0 : decode cX2_order 0 = .ok (.iconst 0, 1) := by decide +kernel
theorem dX2_order_1 : decode cX2_order 1 = .ok (.istore_n 2, 1) := by decide +kernel
theorem dX2_order_2 : decode cX2_order 2 = .ok (.iload_n 2, 1) := by decide +kernel
theorem dX2_order_3 : decode cX2_order 3 = .ok (.bipush 8, 2) := by decide +kernel
theorem dX2_order_5 : decode cX2_order 5 = .ok (.if_icmp .ge 20, 3) := by decide +kernel
theorem dX2_order_8 : decode cX2_order 8 = .ok (.aload_n 0, 1) := by decide +kernel
theorem dX2_order_9 : decode cX2_order 9 = .ok (.iload_n 2, 1) := by decide +kernel
theorem dX2_order_10 : decode cX2_order 10 = .ok (.invokevirtual 120, 3) := by decide +kernel
theorem dX2_order_13 : decode cX2_order 13 = .ok (.iload_n 1, 1) := by decide +kernel
theorem dX2_order_14 : decode cX2_order 14 = .ok (.if_icmp .ne 5, 3) := by decide +kernel
theorem dX2_order_17 : decode cX2_order 17 = .ok (.iload_n 2, 1) := by decide +kernel
theorem dX2_order_18 : decode cX2_order 18 = .ok (.ireturn, 1) := by decide +kernel
theorem dX2_order_19 : decode cX2_order 19 = .ok (.iinc 2 1, 3) := by decide +kernel
theorem dX2_order_22 : decode cX2_order 22 = .ok (.goto (-20), 3) := by decide +kernel
theorem dX2_order_25 : decode cX2_order 25 = .ok (.iconst (-1), 1) := by decide +kernel
theorem dX2_order_26 : decode cX2_order 26 = .ok (.ireturn, 1) := by decide +kernel
theorem dX2_refusalOfThread_0 : decode cX2_refusalOfThread 0 = .ok (.iload_n 1, 1) := by decide +kernel
theorem dX2_refusalOfThread_1 : decode cX2_refusalOfThread 1 = .ok (.ifCond .lt 9, 3) := by decide +kernel
theorem dX2_refusalOfThread_4 : decode cX2_refusalOfThread 4 = .ok (.iload_n 1, 1) := by decide +kernel
theorem dX2_refusalOfThread_5 : decode cX2_refusalOfThread 5 = .ok (.bipush 8, 2) := by decide +kernel
theorem dX2_refusalOfThread_7 : decode cX2_refusalOfThread 7 = .ok (.if_icmp .lt 5, 3) := by decide +kernel
theorem dX2_refusalOfThread_10 : decode cX2_refusalOfThread 10 = .ok (.iconst 1, 1) := by decide +kernel
theorem dX2_refusalOfThread_11 : decode cX2_refusalOfThread 11 = .ok (.ireturn, 1) := by decide +kernel
theorem dX2_refusalOfThread_12 : decode cX2_refusalOfThread 12 = .ok (.aload_n 0, 1) := by decide +kernel
theorem dX2_refusalOfThread_13 : decode cX2_refusalOfThread 13 = .ok (.getfield 29, 3) := by decide +kernel
theorem dX2_refusalOfThread_16 : decode cX2_refusalOfThread 16 = .ok (.iload_n 1, 1) := by decide +kernel
theorem dX2_refusalOfThread_17 : decode cX2_refusalOfThread 17 = .ok (.baload, 1) := by decide +kernel
theorem dX2_refusalOfThread_18 : decode cX2_refusalOfThread 18 = .ok (.ifCond .eq 7, 3) := by decide +kernel
theorem dX2_refusalOfThread_21 : decode cX2_refusalOfThread 21 = .ok (.iconst 2, 1) := by decide +kernel
theorem dX2_refusalOfThread_22 : decode cX2_refusalOfThread 22 = .ok (.goto 4, 3) := by decide +kernel
theorem dX2_refusalOfThread_25 : decode cX2_refusalOfThread 25 = .ok (.iconst 0, 1) := by decide +kernel
theorem dX2_refusalOfThread_26 : decode cX2_refusalOfThread 26 = .ok (.ireturn, 1) := by decide +kernel
set_option maxRecDepth 20000 in
theorem ggX2_refusalOfPart_X2_refusalOfThread : GoodIn wsX2_refusalOfPart wsX2_refusalOfThread := goodIn_r _ [5, 6, 7, 8, 9, 10, 11, 12, 13, 14, 15, 16, 17, 18, 19, 20, 21] (by decide +kernel) (by decide +kernel)
set_option maxRecDepth 20000 in
theorem gX2_refusalOfPart_X2_refusalOfThread : GoodIn wsX2_refusalOfPart (wsV RX2 83 RX2 yX2_refusalOfThread wsX2_refusalOfThread) := goodIn_app (goodIn_of _ (by decide +kernel)) ggX2_refusalOfPart_X2_refusalOfThread
theorem dX2_refusalOfPart_0 : decode cX2_refusalOfPart 0 = .ok (.iload_n 2, 1) := by decide +kernel
theorem dX2_refusalOfPart_1 : decode cX2_refusalOfPart 1 = .ok (.ifCond .lt 8, 3) := by decide +kernel
theorem dX2_refusalOfPart_4 : decode cX2_refusalOfPart 4 = .ok (.iload_n 2, 1) := by decide +kernel
theorem dX2_refusalOfPart_5 : decode cX2_refusalOfPart 5 = .ok (.iconst 5, 1) := by decide +kernel
theorem dX2_refusalOfPart_6 : decode cX2_refusalOfPart 6 = .ok (.if_icmp .le 7, 3) := by decide +kernel
theorem dX2_refusalOfPart_9 : decode cX2_refusalOfPart 9 = .ok (.iconst 5, 1) := by decide +kernel
theorem dX2_refusalOfPart_10 : decode cX2_refusalOfPart 10 = .ok (.goto 8, 3) := by decide +kernel
theorem dX2_refusalOfPart_13 : decode cX2_refusalOfPart 13 = .ok (.aload_n 0, 1) := by decide +kernel
theorem dX2_refusalOfPart_14 : decode cX2_refusalOfPart 14 = .ok (.iload_n 1, 1) := by decide +kernel
theorem dX2_refusalOfPart_15 : decode cX2_refusalOfPart 15 = .ok (.invokevirtual 83, 3) := by decide +kernel
theorem dX2_refusalOfPart_18 : decode cX2_refusalOfPart 18 = .ok (.ireturn, 1) := by decide +kernel
set_option maxRecDepth 20000 in
theorem ggX2_refusalOfSetting_X2_refusalOfPart : GoodIn wsX2_refusalOfSetting wsX2_refusalOfPart := goodIn_r _ [5, 6, 7, 8, 4, 9, 10, 25, 26, 27, 28, 29, 30, 31, 32, 33, 34, 35, 36, 37, 38, 39] (by decide +kernel) (by decide +kernel)
set_option maxRecDepth 20000 in
theorem gX2_refusalOfSetting_X2_refusalOfPart : GoodIn wsX2_refusalOfSetting (wsV RX2 75 RX2 yX2_refusalOfPart wsX2_refusalOfPart) := goodIn_app (goodIn_of _ (by decide +kernel)) ggX2_refusalOfSetting_X2_refusalOfPart
set_option maxRecDepth 20000 in
theorem ggX2_refusalOfSetting_X2_isNumber : GoodIn wsX2_refusalOfSetting wsX2_isNumber := goodIn_r _ [13, 14, 15, 16, 17, 18, 19, 20, 21, 22, 23, 24] (by decide +kernel) (by decide +kernel)
set_option maxRecDepth 20000 in
theorem gX2_refusalOfSetting_X2_isNumber : GoodIn wsX2_refusalOfSetting (va_wsS RX2 123 yX2_isNumber wsX2_isNumber) := goodIn_app (goodIn_of _ (by decide +kernel)) ggX2_refusalOfSetting_X2_isNumber
theorem dX2_refusalOfSetting_0 : decode cX2_refusalOfSetting 0 = .ok (.aload_n 0, 1) := by decide +kernel
theorem dX2_refusalOfSetting_1 : decode cX2_refusalOfSetting 1 = .ok (.iload_n 1, 1) := by decide +kernel
theorem dX2_refusalOfSetting_2 : decode cX2_refusalOfSetting 2 = .ok (.iload_n 2, 1) := by decide +kernel
theorem dX2_refusalOfSetting_3 : decode cX2_refusalOfSetting 3 = .ok (.invokevirtual 75, 3) := by decide +kernel
theorem dX2_refusalOfSetting_6 : decode cX2_refusalOfSetting 6 = .ok (.istore 5, 2) := by decide +kernel
theorem dX2_refusalOfSetting_8 : decode cX2_refusalOfSetting 8 = .ok (.iload 5, 2) := by decide +kernel
theorem dX2_refusalOfSetting_10 : decode cX2_refusalOfSetting 10 = .ok (.ifCond .eq 6, 3) := by decide +kernel
theorem dX2_refusalOfSetting_13 : decode cX2_refusalOfSetting 13 = .ok (.iload 5, 2) := by decide +kernel
theorem dX2_refusalOfSetting_15 : decode cX2_refusalOfSetting 15 = .ok (.ireturn, 1) := by decide +kernel
theorem dX2_refusalOfSetting_16 : decode cX2_refusalOfSetting 16 = .ok (.iload_n 2, 1) := by decide +kernel
theorem dX2_refusalOfSetting_17 : decode cX2_refusalOfSetting 17 = .ok (.lload_n 3, 1) := by decide +kernel
theorem dX2_refusalOfSetting_18 : decode cX2_refusalOfSetting 18 = .ok (.invokestatic 123, 3) := by decide +kernel
theorem dX2_refusalOfSetting_21 : decode cX2_refusalOfSetting 21 = .ok (.ifCond .eq 7, 3) := by decide +kernel
theorem dX2_refusalOfSetting_24 : decode cX2_refusalOfSetting 24 = .ok (.iconst 0, 1) := by decide +kernel
theorem dX2_refusalOfSetting_25 : decode cX2_refusalOfSetting 25 = .ok (.goto 5, 3) := by decide +kernel
theorem dX2_refusalOfSetting_28 : decode cX2_refusalOfSetting 28 = .ok (.bipush 6, 2) := by decide +kernel
theorem dX2_refusalOfSetting_30 : decode cX2_refusalOfSetting 30 = .ok (.ireturn, 1) := by decide +kernel
set_option maxRecDepth 20000 in
theorem ggX2_isNumber_X1_amount : GoodIn wsX2_isNumber wsX1_amount := goodIn_r _ [6, 7] (by decide +kernel) (by decide +kernel)
set_option maxRecDepth 20000 in
theorem gX2_isNumber_X1_amount : GoodIn wsX2_isNumber (va_wsS RX2 127 yX1_amount wsX1_amount) := goodIn_app (goodIn_of _ (by decide +kernel)) ggX2_isNumber_X1_amount
set_option maxRecDepth 20000 in
theorem ggX2_isNumber_X1_shortAmount : GoodIn wsX2_isNumber wsX1_shortAmount := goodIn_r _ [10, 11] (by decide +kernel) (by decide +kernel)
set_option maxRecDepth 20000 in
theorem gX2_isNumber_X1_shortAmount : GoodIn wsX2_isNumber (va_wsS RX2 135 yX1_shortAmount wsX1_shortAmount) := goodIn_app (goodIn_of _ (by decide +kernel)) ggX2_isNumber_X1_shortAmount
theorem dX2_isNumber_0 : decode cX2_isNumber 0 = .ok (.iload_n 0, 1) := by decide +kernel
theorem dX2_isNumber_1 : decode cX2_isNumber 1 = .ok (.tableswitch 72 0 5 #[39, 56, 72, 72, 39, 39], 39) := by decide +kernel
theorem dX2_isNumber_40 : decode cX2_isNumber 40 = .ok (.lload_n 1, 1) := by decide +kernel
theorem dX2_isNumber_41 : decode cX2_isNumber 41 = .ok (.invokestatic 127, 3) := by decide +kernel
theorem dX2_isNumber_44 : decode cX2_isNumber 44 = .ok (.ldc2_w 133, 3) := by decide +kernel
theorem dX2_isNumber_47 : decode cX2_isNumber 47 = .ok (.lcmp, 1) := by decide +kernel
theorem dX2_isNumber_48 : decode cX2_isNumber 48 = .ok (.ifCond .gt 7, 3) := by decide +kernel
theorem dX2_isNumber_51 : decode cX2_isNumber 51 = .ok (.iconst 1, 1) := by decide +kernel
theorem dX2_isNumber_52 : decode cX2_isNumber 52 = .ok (.goto 4, 3) := by decide +kernel
theorem dX2_isNumber_55 : decode cX2_isNumber 55 = .ok (.iconst 0, 1) := by decide +kernel
theorem dX2_isNumber_56 : decode cX2_isNumber 56 = .ok (.ireturn, 1) := by decide +kernel
theorem dX2_isNumber_57 : decode cX2_isNumber 57 = .ok (.lload_n 1, 1) := by decide +kernel
theorem dX2_isNumber_58 : decode cX2_isNumber 58 = .ok (.l2i, 1) := by decide +kernel
theorem dX2_isNumber_59 : decode cX2_isNumber 59 = .ok (.invokestatic 135, 3) := by decide +kernel
theorem dX2_isNumber_62 : decode cX2_isNumber 62 = .ok (.ldc 138, 2) := by decide +kernel
theorem dX2_isNumber_64 : decode cX2_isNumber 64 = .ok (.if_icmp .gt 7, 3) := by decide +kernel
theorem dX2_isNumber_67 : decode cX2_isNumber 67 = .ok (.iconst 1, 1) := by decide +kernel
theorem dX2_isNumber_68 : decode cX2_isNumber 68 = .ok (.goto 4, 3) := by decide +kernel
theorem dX2_isNumber_71 : decode cX2_isNumber 71 = .ok (.iconst 0, 1) := by decide +kernel
theorem dX2_isNumber_72 : decode cX2_isNumber 72 = .ok (.ireturn, 1) := by decide +kernel
theorem dX2_isNumber_73 : decode cX2_isNumber 73 = .ok (.iconst 1, 1) := by decide +kernel
theorem dX2_isNumber_74 : decode cX2_isNumber 74 = .ok (.ireturn, 1) := by decide +kernel
set_option maxRecDepth 20000 in
theorem ggX2_refusalOfStringing_X2_refusalOfThread : GoodIn wsX2_refusalOfStringing wsX2_refusalOfThread := goodIn_r _ [5, 6, 7, 8, 9, 10, 11, 12, 13, 14, 15, 16, 17, 18, 19, 20, 21] (by decide +kernel) (by decide +kernel)
set_option maxRecDepth 20000 in
theorem gX2_refusalOfStringing_X2_refusalOfThread : GoodIn wsX2_refusalOfStringing (wsV RX2 83 RX2 yX2_refusalOfThread wsX2_refusalOfThread) := goodIn_app (goodIn_of _ (by decide +kernel)) ggX2_refusalOfStringing_X2_refusalOfThread
theorem dX2_refusalOfStringing_0 : decode cX2_refusalOfStringing 0 = .ok (.aload_n 0, 1) := by decide +kernel
theorem dX2_refusalOfStringing_1 : decode cX2_refusalOfStringing 1 = .ok (.iload_n 1, 1) := by decide +kernel
theorem dX2_refusalOfStringing_2 : decode cX2_refusalOfStringing 2 = .ok (.invokevirtual 83, 3) := by decide +kernel
theorem dX2_refusalOfStringing_5 : decode cX2_refusalOfStringing 5 = .ok (.istore_n 2, 1) := by decide +kernel
theorem dX2_refusalOfStringing_6 : decode cX2_refusalOfStringing 6 = .ok (.iload_n 2, 1) := by decide +kernel
theorem dX2_refusalOfStringing_7 : decode cX2_refusalOfStringing 7 = .ok (.iconst 2, 1) := by decide +kernel
theorem dX2_refusalOfStringing_8 : decode cX2_refusalOfStringing 8 = .ok (.if_icmp .ne 5, 3) := by decide +kernel
theorem dX2_refusalOfStringing_11 : decode cX2_refusalOfStringing 11 = .ok (.iconst 0, 1) := by decide +kernel
theorem dX2_refusalOfStringing_12 : decode cX2_refusalOfStringing 12 = .ok (.ireturn, 1) := by decide +kernel
theorem dX2_refusalOfStringing_13 : decode cX2_refusalOfStringing 13 = .ok (.iload_n 2, 1) := by decide +kernel
theorem dX2_refusalOfStringing_14 : decode cX2_refusalOfStringing 14 = .ok (.ifCond .ne 8, 3) := by decide +kernel
theorem dX2_refusalOfStringing_17 : decode cX2_refusalOfStringing 17 = .ok (.bipush 7, 2) := by decide +kernel
theorem dX2_refusalOfStringing_19 : decode cX2_refusalOfStringing 19 = .ok (.goto 4, 3) := by decide +kernel
theorem dX2_refusalOfStringing_22 : decode cX2_refusalOfStringing 22 = .ok (.iload_n 2, 1) := by decide +kernel
theorem dX2_refusalOfStringing_23 : decode cX2_refusalOfStringing 23 = .ok (.ireturn, 1) := by decide +kernel
set_option maxRecDepth 20000 in
theorem ggX2_refusalOfMove_X2_refusalOfThread : GoodIn wsX2_refusalOfMove wsX2_refusalOfThread := goodIn_r _ [5, 6, 10, 11, 12, 13, 14, 15, 16, 17, 18, 19, 20, 21, 22, 23, 24] (by decide +kernel) (by decide +kernel)
set_option maxRecDepth 20000 in
theorem gX2_refusalOfMove_X2_refusalOfThread : GoodIn wsX2_refusalOfMove (wsV RX2 83 RX2 yX2_refusalOfThread wsX2_refusalOfThread) := goodIn_app (goodIn_of _ (by decide +kernel)) ggX2_refusalOfMove_X2_refusalOfThread
set_option maxRecDepth 20000 in
theorem ggX2_refusalOfMove_X2_wantsOther : GoodIn wsX2_refusalOfMove wsX2_wantsOther := goodIn_r _ [9] (by decide +kernel) (by decide +kernel)
set_option maxRecDepth 20000 in
theorem gX2_refusalOfMove_X2_wantsOther : GoodIn wsX2_refusalOfMove (va_wsS RX2 139 yX2_wantsOther wsX2_wantsOther) := goodIn_app (goodIn_of _ (by decide +kernel)) ggX2_refusalOfMove_X2_wantsOther
theorem dX2_refusalOfMove_0 : decode cX2_refusalOfMove 0 = .ok (.iload_n 1, 1) := by decide +kernel
theorem dX2_refusalOfMove_1 : decode cX2_refusalOfMove 1 = .ok (.ifCond .lt 9, 3) := by decide +kernel
theorem dX2_refusalOfMove_4 : decode cX2_refusalOfMove 4 = .ok (.iload_n 1, 1) := by decide +kernel
theorem dX2_refusalOfMove_5 : decode cX2_refusalOfMove 5 = .ok (.bipush 15, 2) := by decide +kernel
theorem dX2_refusalOfMove_7 : decode cX2_refusalOfMove 7 = .ok (.if_icmp .le 5, 3) := by decide +kernel
theorem dX2_refusalOfMove_10 : decode cX2_refusalOfMove 10 = .ok (.iconst 5, 1) := by decide +kernel
theorem dX2_refusalOfMove_11 : decode cX2_refusalOfMove 11 = .ok (.ireturn, 1) := by decide +kernel
theorem dX2_refusalOfMove_12 : decode cX2_refusalOfMove 12 = .ok (.aload_n 0, 1) := by decide +kernel
theorem dX2_refusalOfMove_13 : decode cX2_refusalOfMove 13 = .ok (.iload_n 2, 1) := by decide +kernel
theorem dX2_refusalOfMove_14 : decode cX2_refusalOfMove 14 = .ok (.invokevirtual 83, 3) := by decide +kernel
theorem dX2_refusalOfMove_17 : decode cX2_refusalOfMove 17 = .ok (.istore 4, 2) := by decide +kernel
theorem dX2_refusalOfMove_19 : decode cX2_refusalOfMove 19 = .ok (.iload 4, 2) := by decide +kernel
theorem dX2_refusalOfMove_21 : decode cX2_refusalOfMove 21 = .ok (.ifCond .ne 10, 3) := by decide +kernel
theorem dX2_refusalOfMove_24 : decode cX2_refusalOfMove 24 = .ok (.iload_n 1, 1) := by decide +kernel
theorem dX2_refusalOfMove_25 : decode cX2_refusalOfMove 25 = .ok (.invokestatic 139, 3) := by decide +kernel
theorem dX2_refusalOfMove_28 : decode cX2_refusalOfMove 28 = .ok (.ifCond .ne 6, 3) := by decide +kernel
theorem dX2_refusalOfMove_31 : decode cX2_refusalOfMove 31 = .ok (.iload 4, 2) := by decide +kernel
theorem dX2_refusalOfMove_33 : decode cX2_refusalOfMove 33 = .ok (.ireturn, 1) := by decide +kernel
theorem dX2_refusalOfMove_34 : decode cX2_refusalOfMove 34 = .ok (.aload_n 0, 1) := by decide +kernel
theorem dX2_refusalOfMove_35 : decode cX2_refusalOfMove 35 = .ok (.iload_n 3, 1) := by decide +kernel
theorem dX2_refusalOfMove_36 : decode cX2_refusalOfMove 36 = .ok (.invokevirtual 83, 3) := by decide +kernel
theorem dX2_refusalOfMove_39 : decode cX2_refusalOfMove 39 = .ok (.istore 5, 2) := by decide +kernel
theorem dX2_refusalOfMove_41 : decode cX2_refusalOfMove 41 = .ok (.iload 5, 2) := by decide +kernel
theorem dX2_refusalOfMove_43 : decode cX2_refusalOfMove 43 = .ok (.ifCond .ne 7, 3) := by decide +kernel
theorem dX2_refusalOfMove_46 : decode cX2_refusalOfMove 46 = .ok (.iconst 0, 1) := by decide +kernel
theorem dX2_refusalOfMove_47 : decode cX2_refusalOfMove 47 = .ok (.goto 7, 3) := by decide +kernel
theorem dX2_refusalOfMove_50 : decode cX2_refusalOfMove 50 = .ok (.iload 5, 2) := by decide +kernel
theorem dX2_refusalOfMove_52 : decode cX2_refusalOfMove 52 = .ok (.iconst 2, 1) := by decide +kernel
theorem dX2_refusalOfMove_53 : decode cX2_refusalOfMove 53 = .ok (.iadd, 1) := by decide +kernel
theorem dX2_refusalOfMove_54 : decode cX2_refusalOfMove 54 = .ok (.ireturn, 1) := by decide +kernel
theorem dX2_wantsOther_0 : decode cX2_wantsOther 0 = .ok (.iload_n 0, 1) := by decide +kernel
theorem dX2_wantsOther_1 : decode cX2_wantsOther 1 = .ok (.iconst 1, 1) := by decide +kernel
theorem dX2_wantsOther_2 : decode cX2_wantsOther 2 = .ok (.if_icmp .eq 26, 3) := by decide +kernel
theorem dX2_wantsOther_5 : decode cX2_wantsOther 5 = .ok (.iload_n 0, 1) := by decide +kernel
theorem dX2_wantsOther_6 : decode cX2_wantsOther 6 = .ok (.iconst 2, 1) := by decide +kernel
theorem dX2_wantsOther_7 : decode cX2_wantsOther 7 = .ok (.if_icmp .eq 21, 3) := by decide +kernel
theorem dX2_wantsOther_10 : decode cX2_wantsOther 10 = .ok (.iload_n 0, 1) := by decide +kernel
theorem dX2_wantsOther_11 : decode cX2_wantsOther 11 = .ok (.bipush 7, 2) := by decide +kernel
theorem dX2_wantsOther_13 : decode cX2_wantsOther 13 = .ok (.if_icmp .eq 15, 3) := by decide +kernel
theorem dX2_wantsOther_16 : decode cX2_wantsOther 16 = .ok (.iload_n 0, 1) := by decide +kernel
theorem dX2_wantsOther_17 : decode cX2_wantsOther 17 = .ok (.bipush 9, 2) := by decide +kernel
theorem dX2_wantsOther_19 : decode cX2_wantsOther 19 = .ok (.if_icmp .eq 9, 3) := by decide +kernel
theorem dX2_wantsOther_22 : decode cX2_wantsOther 22 = .ok (.iload_n 0, 1) := by decide +kernel
theorem dX2_wantsOther_23 : decode cX2_wantsOther 23 = .ok (.bipush 11, 2) := by decide +kernel
theorem dX2_wantsOther_25 : decode cX2_wantsOther 25 = .ok (.if_icmp .ne 7, 3) := by decide +kernel
theorem dX2_wantsOther_28 : decode cX2_wantsOther 28 = .ok (.iconst 1, 1) := by decide +kernel
theorem dX2_wantsOther_29 : decode cX2_wantsOther 29 = .ok (.goto 4, 3) := by decide +kernel
theorem dX2_wantsOther_32 : decode cX2_wantsOther 32 = .ok (.iconst 0, 1) := by decide +kernel
theorem dX2_wantsOther_33 : decode cX2_wantsOther 33 = .ok (.ireturn, 1) := by decide +kernel
theorem dX2_stringAnew_0 : decode cX2_stringAnew 0 = .ok (.aload_n 0, 1) := by decide +kernel
theorem dX2_stringAnew_1 : decode cX2_stringAnew 1 = .ok (.getfield 29, 3) := by decide +kernel
theorem dX2_stringAnew_4 : decode cX2_stringAnew 4 = .ok (.iload_n 1, 1) := by decide +kernel
theorem dX2_stringAnew_5 : decode cX2_stringAnew 5 = .ok (.iconst 0, 1) := by decide +kernel
theorem dX2_stringAnew_6 : decode cX2_stringAnew 6 = .ok (.bastore, 1) := by decide +kernel
theorem dX2_stringAnew_7 : decode cX2_stringAnew 7 = .ok (.aload_n 0, 1) := by decide +kernel
theorem dX2_stringAnew_8 : decode cX2_stringAnew 8 = .ok (.getfield 9, 3) := by decide +kernel
theorem dX2_stringAnew_11 : decode cX2_stringAnew 11 = .ok (.iload_n 1, 1) := by decide +kernel
theorem dX2_stringAnew_12 : decode cX2_stringAnew 12 = .ok (.lconst 0, 1) := by decide +kernel
theorem dX2_stringAnew_13 : decode cX2_stringAnew 13 = .ok (.lastore, 1) := by decide +kernel
theorem dX2_stringAnew_14 : decode cX2_stringAnew 14 = .ok (.aload_n 0, 1) := by decide +kernel
theorem dX2_stringAnew_15 : decode cX2_stringAnew 15 = .ok (.getfield 13, 3) := by decide +kernel
theorem dX2_stringAnew_18 : decode cX2_stringAnew 18 = .ok (.iload_n 1, 1) := by decide +kernel
theorem dX2_stringAnew_19 : decode cX2_stringAnew 19 = .ok (.iconst 0, 1) := by decide +kernel
theorem dX2_stringAnew_20 : decode cX2_stringAnew 20 = .ok (.iastore, 1) := by decide +kernel
theorem dX2_stringAnew_21 : decode cX2_stringAnew 21 = .ok (.aload_n 0, 1) := by decide +kernel
theorem dX2_stringAnew_22 : decode cX2_stringAnew 22 = .ok (.getfield 17, 3) := by decide +kernel
theorem dX2_stringAnew_25 : decode cX2_stringAnew 25 = .ok (.iload_n 1, 1) := by decide +kernel
theorem dX2_stringAnew_26 : decode cX2_stringAnew 26 = .ok (.iconst 0, 1) := by decide +kernel
theorem dX2_stringAnew_27 : decode cX2_stringAnew 27 = .ok (.iastore, 1) := by decide +kernel
theorem dX2_stringAnew_28 : decode cX2_stringAnew 28 = .ok (.aload_n 0, 1) := by decide +kernel
theorem dX2_stringAnew_29 : decode cX2_stringAnew 29 = .ok (.getfield 20, 3) := by decide +kernel
theorem dX2_stringAnew_32 : decode cX2_stringAnew 32 = .ok (.iload_n 1, 1) := by decide +kernel
theorem dX2_stringAnew_33 : decode cX2_stringAnew 33 = .ok (.lconst 0, 1) := by decide +kernel
theorem dX2_stringAnew_34 : decode cX2_stringAnew 34 = .ok (.lastore, 1) := by decide +kernel
theorem dX2_stringAnew_35 : decode cX2_stringAnew 35 = .ok (.aload_n 0, 1) := by decide +kernel
theorem dX2_stringAnew_36 : decode cX2_stringAnew 36 = .ok (.getfield 23, 3) := by decide +kernel
theorem dX2_stringAnew_39 : decode cX2_stringAnew 39 = .ok (.iload_n 1, 1) := by decide +kernel
theorem dX2_stringAnew_40 : decode cX2_stringAnew 40 = .ok (.ldc2_w 143, 3) := by decide +kernel
theorem dX2_stringAnew_43 : decode cX2_stringAnew 43 = .ok (.lastore, 1) := by decide +kernel
theorem dX2_stringAnew_44 : decode cX2_stringAnew 44 = .ok (.aload_n 0, 1) := by decide +kernel
theorem dX2_stringAnew_45 : decode cX2_stringAnew 45 = .ok (.getfield 26, 3) := by decide +kernel
theorem dX2_stringAnew_48 : decode cX2_stringAnew 48 = .ok (.iload_n 1, 1) := by decide +kernel
theorem dX2_stringAnew_49 : decode cX2_stringAnew 49 = .ok (.ldc2_w 133, 3) := by decide +kernel
theorem dX2_stringAnew_52 : decode cX2_stringAnew 52 = .ok (.lastore, 1) := by decide +kernel
theorem dX2_stringAnew_53 : decode cX2_stringAnew 53 = .ok (.return_, 1) := by decide +kernel
theorem dX2_write_0 : decode cX2_write 0 = .ok (.iload_n 2, 1) := by decide +kernel
theorem dX2_write_1 : decode cX2_write 1 = .ok (.tableswitch 101 0 5 #[39, 49, 60, 71, 81, 91], 39) := by decide +kernel
theorem dX2_write_40 : decode cX2_write 40 = .ok (.aload_n 0, 1) := by decide +kernel
theorem dX2_write_41 : decode cX2_write 41 = .ok (.getfield 9, 3) := by decide +kernel
theorem dX2_write_44 : decode cX2_write 44 = .ok (.iload_n 1, 1) := by decide +kernel
theorem dX2_write_45 : decode cX2_write 45 = .ok (.lload_n 3, 1) := by decide +kernel
theorem dX2_write_46 : decode cX2_write 46 = .ok (.lastore, 1) := by decide +kernel
theorem dX2_write_47 : decode cX2_write 47 = .ok (.goto 55, 3) := by decide +kernel
theorem dX2_write_50 : decode cX2_write 50 = .ok (.aload_n 0, 1) := by decide +kernel
theorem dX2_write_51 : decode cX2_write 51 = .ok (.getfield 13, 3) := by decide +kernel
theorem dX2_write_54 : decode cX2_write 54 = .ok (.iload_n 1, 1) := by decide +kernel
theorem dX2_write_55 : decode cX2_write 55 = .ok (.lload_n 3, 1) := by decide +kernel
theorem dX2_write_56 : decode cX2_write 56 = .ok (.l2i, 1) := by decide +kernel
theorem dX2_write_57 : decode cX2_write 57 = .ok (.iastore, 1) := by decide +kernel
theorem dX2_write_58 : decode cX2_write 58 = .ok (.goto 44, 3) := by decide +kernel
theorem dX2_write_61 : decode cX2_write 61 = .ok (.aload_n 0, 1) := by decide +kernel
theorem dX2_write_62 : decode cX2_write 62 = .ok (.getfield 17, 3) := by decide +kernel
theorem dX2_write_65 : decode cX2_write 65 = .ok (.iload_n 1, 1) := by decide +kernel
theorem dX2_write_66 : decode cX2_write 66 = .ok (.lload_n 3, 1) := by decide +kernel
theorem dX2_write_67 : decode cX2_write 67 = .ok (.l2i, 1) := by decide +kernel
theorem dX2_write_68 : decode cX2_write 68 = .ok (.iastore, 1) := by decide +kernel
theorem dX2_write_69 : decode cX2_write 69 = .ok (.goto 33, 3) := by decide +kernel
theorem dX2_write_72 : decode cX2_write 72 = .ok (.aload_n 0, 1) := by decide +kernel
theorem dX2_write_73 : decode cX2_write 73 = .ok (.getfield 20, 3) := by decide +kernel
theorem dX2_write_76 : decode cX2_write 76 = .ok (.iload_n 1, 1) := by decide +kernel
theorem dX2_write_77 : decode cX2_write 77 = .ok (.lload_n 3, 1) := by decide +kernel
theorem dX2_write_78 : decode cX2_write 78 = .ok (.lastore, 1) := by decide +kernel
theorem dX2_write_79 : decode cX2_write 79 = .ok (.goto 23, 3) := by decide +kernel
theorem dX2_write_82 : decode cX2_write 82 = .ok (.aload_n 0, 1) := by decide +kernel
theorem dX2_write_83 : decode cX2_write 83 = .ok (.getfield 23, 3) := by decide +kernel
theorem dX2_write_86 : decode cX2_write 86 = .ok (.iload_n 1, 1) := by decide +kernel
theorem dX2_write_87 : decode cX2_write 87 = .ok (.lload_n 3, 1) := by decide +kernel
theorem dX2_write_88 : decode cX2_write 88 = .ok (.lastore, 1) := by decide +kernel
theorem dX2_write_89 : decode cX2_write 89 = .ok (.goto 13, 3) := by decide +kernel
theorem dX2_write_92 : decode cX2_write 92 = .ok (.aload_n 0, 1) := by decide +kernel
theorem dX2_write_93 : decode cX2_write 93 = .ok (.getfield 26, 3) := by decide +kernel
theorem dX2_write_96 : decode cX2_write 96 = .ok (.iload_n 1, 1) := by decide +kernel
theorem dX2_write_97 : decode cX2_write 97 = .ok (.lload_n 3, 1) := by decide +kernel
theorem dX2_write_98 : decode cX2_write 98 = .ok (.lastore, 1) := by decide +kernel
theorem dX2_write_99 : decode cX2_write 99 = .ok (.goto 3, 3) := by decide +kernel
theorem dX2_write_102 : decode cX2_write 102 = .ok (.return_, 1) := by decide +kernel
theorem dX2_read_0 : decode cX2_read 0 = .ok (.iload_n 2, 1) := by decide +kernel
theorem dX2_read_1 : decode cX2_read 1 = .ok (.tableswitch 83 0 5 #[39, 46, 54, 62, 69, 76], 39) := by decide +kernel
theorem dX2_read_40 : decode cX2_read 40 = .ok (.aload_n 0, 1) := by decide +kernel
theorem dX2_read_41 : decode cX2_read 41 = .ok (.getfield 9, 3) := by decide +kernel
theorem dX2_read_44 : decode cX2_read 44 = .ok (.iload_n 1, 1) := by decide +kernel
theorem dX2_read_45 : decode cX2_read 45 = .ok (.laload, 1) := by decide +kernel
theorem dX2_read_46 : decode cX2_read 46 = .ok (.lreturn, 1) := by decide +kernel
theorem dX2_read_47 : decode cX2_read 47 = .ok (.aload_n 0, 1) := by decide +kernel
theorem dX2_read_48 : decode cX2_read 48 = .ok (.getfield 13, 3) := by decide +kernel
theorem dX2_read_51 : decode cX2_read 51 = .ok (.iload_n 1, 1) := by decide +kernel
theorem dX2_read_52 : decode cX2_read 52 = .ok (.iaload, 1) := by decide +kernel
theorem dX2_read_53 : decode cX2_read 53 = .ok (.i2l, 1) := by decide +kernel
theorem dX2_read_54 : decode cX2_read 54 = .ok (.lreturn, 1) := by decide +kernel
theorem dX2_read_55 : decode cX2_read 55 = .ok (.aload_n 0, 1) := by decide +kernel
theorem dX2_read_56 : decode cX2_read 56 = .ok (.getfield 17, 3) := by decide +kernel
theorem dX2_read_59 : decode cX2_read 59 = .ok (.iload_n 1, 1) := by decide +kernel
theorem dX2_read_60 : decode cX2_read 60 = .ok (.iaload, 1) := by decide +kernel
theorem dX2_read_61 : decode cX2_read 61 = .ok (.i2l, 1) := by decide +kernel
theorem dX2_read_62 : decode cX2_read 62 = .ok (.lreturn, 1) := by decide +kernel
theorem dX2_read_63 : decode cX2_read 63 = .ok (.aload_n 0, 1) := by decide +kernel
theorem dX2_read_64 : decode cX2_read 64 = .ok (.getfield 20, 3) := by decide +kernel
theorem dX2_read_67 : decode cX2_read 67 = .ok (.iload_n 1, 1) := by decide +kernel
theorem dX2_read_68 : decode cX2_read 68 = .ok (.laload, 1) := by decide +kernel
theorem dX2_read_69 : decode cX2_read 69 = .ok (.lreturn, 1) := by decide +kernel
theorem dX2_read_70 : decode cX2_read 70 = .ok (.aload_n 0, 1) := by decide +kernel
theorem dX2_read_71 : decode cX2_read 71 = .ok (.getfield 23, 3) := by decide +kernel
theorem dX2_read_74 : decode cX2_read 74 = .ok (.iload_n 1, 1) := by decide +kernel
theorem dX2_read_75 : decode cX2_read 75 = .ok (.laload, 1) := by decide +kernel
theorem dX2_read_76 : decode cX2_read 76 = .ok (.lreturn, 1) := by decide +kernel
theorem dX2_read_77 : decode cX2_read 77 = .ok (.aload_n 0, 1) := by decide +kernel
theorem dX2_read_78 : decode cX2_read 78 = .ok (.getfield 26, 3) := by decide +kernel
theorem dX2_read_81 : decode cX2_read 81 = .ok (.iload_n 1, 1) := by decide +kernel
theorem dX2_read_82 : decode cX2_read 82 = .ok (.laload, 1) := by decide +kernel
theorem dX2_read_83 : decode cX2_read 83 = .ok (.lreturn, 1) := by decide +kernel
theorem dX2_read_84 : decode cX2_read 84 = .ok (.lconst 0, 1) := by decide +kernel
theorem dX2_read_85 : decode cX2_read 85 = .ok (.lreturn, 1) := by decide +kernel
theorem dX2_changeLength_0 : decode cX2_changeLength 0 = .ok (.aload_n 0, 1) := by decide +kernel
theorem dX2_changeLength_1 : decode cX2_changeLength 1 = .ok (.getfield 9, 3) := by decide +kernel
theorem dX2_changeLength_4 : decode cX2_changeLength 4 = .ok (.iload_n 1, 1) := by decide +kernel
theorem dX2_changeLength_5 : decode cX2_changeLength 5 = .ok (.laload, 1) := by decide +kernel
theorem dX2_changeLength_6 : decode cX2_changeLength 6 = .ok (.lload_n 2, 1) := by decide +kernel
theorem dX2_changeLength_7 : decode cX2_changeLength 7 = .ok (.lcmp, 1) := by decide +kernel
theorem dX2_changeLength_8 : decode cX2_changeLength 8 = .ok (.ifCond .eq 20, 3) := by decide +kernel
theorem dX2_changeLength_11 : decode cX2_changeLength 11 = .ok (.aload_n 0, 1) := by decide +kernel
theorem dX2_changeLength_12 : decode cX2_changeLength 12 = .ok (.getfield 9, 3) := by decide +kernel
theorem dX2_changeLength_15 : decode cX2_changeLength 15 = .ok (.iload_n 1, 1) := by decide +kernel
theorem dX2_changeLength_16 : decode cX2_changeLength 16 = .ok (.lload_n 2, 1) := by decide +kernel
theorem dX2_changeLength_17 : decode cX2_changeLength 17 = .ok (.lastore, 1) := by decide +kernel
theorem dX2_changeLength_18 : decode cX2_changeLength 18 = .ok (.aload_n 0, 1) := by decide +kernel
theorem dX2_changeLength_19 : decode cX2_changeLength 19 = .ok (.getfield 57, 3) := by decide +kernel
theorem dX2_changeLength_22 : decode cX2_changeLength 22 = .ok (.iconst 1, 1) := by decide +kernel
theorem dX2_changeLength_23 : decode cX2_changeLength 23 = .ok (.dup2, 1) := by decide +kernel
theorem dX2_changeLength_24 : decode cX2_changeLength 24 = .ok (.iaload, 1) := by decide +kernel
theorem dX2_changeLength_25 : decode cX2_changeLength 25 = .ok (.iconst 1, 1) := by decide +kernel
theorem dX2_changeLength_26 : decode cX2_changeLength 26 = .ok (.iadd, 1) := by decide +kernel
theorem dX2_changeLength_27 : decode cX2_changeLength 27 = .ok (.iastore, 1) := by decide +kernel
theorem dX2_changeLength_28 : decode cX2_changeLength 28 = .ok (.return_, 1) := by decide +kernel
theorem dX2_changePull_0 : decode cX2_changePull 0 = .ok (.aload_n 0, 1) := by decide +kernel
theorem dX2_changePull_1 : decode cX2_changePull 1 = .ok (.getfield 13, 3) := by decide +kernel
theorem dX2_changePull_4 : decode cX2_changePull 4 = .ok (.iload_n 1, 1) := by decide +kernel
theorem dX2_changePull_5 : decode cX2_changePull 5 = .ok (.iaload, 1) := by decide +kernel
theorem dX2_changePull_6 : decode cX2_changePull 6 = .ok (.iload_n 2, 1) := by decide +kernel
theorem dX2_changePull_7 : decode cX2_changePull 7 = .ok (.if_icmp .eq 20, 3) := by decide +kernel
theorem dX2_changePull_10 : decode cX2_changePull 10 = .ok (.aload_n 0, 1) := by decide +kernel
theorem dX2_changePull_11 : decode cX2_changePull 11 = .ok (.getfield 13, 3) := by decide +kernel
theorem dX2_changePull_14 : decode cX2_changePull 14 = .ok (.iload_n 1, 1) := by decide +kernel
theorem dX2_changePull_15 : decode cX2_changePull 15 = .ok (.iload_n 2, 1) := by decide +kernel
theorem dX2_changePull_16 : decode cX2_changePull 16 = .ok (.iastore, 1) := by decide +kernel
theorem dX2_changePull_17 : decode cX2_changePull 17 = .ok (.aload_n 0, 1) := by decide +kernel
theorem dX2_changePull_18 : decode cX2_changePull 18 = .ok (.getfield 57, 3) := by decide +kernel
theorem dX2_changePull_21 : decode cX2_changePull 21 = .ok (.iconst 2, 1) := by decide +kernel
theorem dX2_changePull_22 : decode cX2_changePull 22 = .ok (.dup2, 1) := by decide +kernel
theorem dX2_changePull_23 : decode cX2_changePull 23 = .ok (.iaload, 1) := by decide +kernel
theorem dX2_changePull_24 : decode cX2_changePull 24 = .ok (.iconst 1, 1) := by decide +kernel
theorem dX2_changePull_25 : decode cX2_changePull 25 = .ok (.iadd, 1) := by decide +kernel
theorem dX2_changePull_26 : decode cX2_changePull 26 = .ok (.iastore, 1) := by decide +kernel
theorem dX2_changePull_27 : decode cX2_changePull 27 = .ok (.return_, 1) := by decide +kernel
theorem dX2_changeKnots_0 : decode cX2_changeKnots 0 = .ok (.aload_n 0, 1) := by decide +kernel
theorem dX2_changeKnots_1 : decode cX2_changeKnots 1 = .ok (.getfield 17, 3) := by decide +kernel
theorem dX2_changeKnots_4 : decode cX2_changeKnots 4 = .ok (.iload_n 1, 1) := by decide +kernel
theorem dX2_changeKnots_5 : decode cX2_changeKnots 5 = .ok (.iaload, 1) := by decide +kernel
theorem dX2_changeKnots_6 : decode cX2_changeKnots 6 = .ok (.iload_n 2, 1) := by decide +kernel
theorem dX2_changeKnots_7 : decode cX2_changeKnots 7 = .ok (.if_icmp .eq 20, 3) := by decide +kernel
theorem dX2_changeKnots_10 : decode cX2_changeKnots 10 = .ok (.aload_n 0, 1) := by decide +kernel
theorem dX2_changeKnots_11 : decode cX2_changeKnots 11 = .ok (.getfield 17, 3) := by decide +kernel
theorem dX2_changeKnots_14 : decode cX2_changeKnots 14 = .ok (.iload_n 1, 1) := by decide +kernel
theorem dX2_changeKnots_15 : decode cX2_changeKnots 15 = .ok (.iload_n 2, 1) := by decide +kernel
theorem dX2_changeKnots_16 : decode cX2_changeKnots 16 = .ok (.iastore, 1) := by decide +kernel
theorem dX2_changeKnots_17 : decode cX2_changeKnots 17 = .ok (.aload_n 0, 1) := by decide +kernel
theorem dX2_changeKnots_18 : decode cX2_changeKnots 18 = .ok (.getfield 57, 3) := by decide +kernel
theorem dX2_changeKnots_21 : decode cX2_changeKnots 21 = .ok (.iconst 3, 1) := by decide +kernel
theorem dX2_changeKnots_22 : decode cX2_changeKnots 22 = .ok (.dup2, 1) := by decide +kernel
theorem dX2_changeKnots_23 : decode cX2_changeKnots 23 = .ok (.iaload, 1) := by decide +kernel
theorem dX2_changeKnots_24 : decode cX2_changeKnots 24 = .ok (.iconst 1, 1) := by decide +kernel
theorem dX2_changeKnots_25 : decode cX2_changeKnots 25 = .ok (.iadd, 1) := by decide +kernel
theorem dX2_changeKnots_26 : decode cX2_changeKnots 26 = .ok (.iastore, 1) := by decide +kernel
theorem dX2_changeKnots_27 : decode cX2_changeKnots 27 = .ok (.return_, 1) := by decide +kernel
theorem dX2_changeTwist_0 : decode cX2_changeTwist 0 = .ok (.aload_n 0, 1) := by decide +kernel
theorem dX2_changeTwist_1 : decode cX2_changeTwist 1 = .ok (.getfield 20, 3) := by decide +kernel
theorem dX2_changeTwist_4 : decode cX2_changeTwist 4 = .ok (.iload_n 1, 1) := by decide +kernel
theorem dX2_changeTwist_5 : decode cX2_changeTwist 5 = .ok (.laload, 1) := by decide +kernel
theorem dX2_changeTwist_6 : decode cX2_changeTwist 6 = .ok (.lload_n 2, 1) := by decide +kernel
theorem dX2_changeTwist_7 : decode cX2_changeTwist 7 = .ok (.lcmp, 1) := by decide +kernel
theorem dX2_changeTwist_8 : decode cX2_changeTwist 8 = .ok (.ifCond .eq 20, 3) := by decide +kernel
theorem dX2_changeTwist_11 : decode cX2_changeTwist 11 = .ok (.aload_n 0, 1) := by decide +kernel
theorem dX2_changeTwist_12 : decode cX2_changeTwist 12 = .ok (.getfield 20, 3) := by decide +kernel
theorem dX2_changeTwist_15 : decode cX2_changeTwist 15 = .ok (.iload_n 1, 1) := by decide +kernel
theorem dX2_changeTwist_16 : decode cX2_changeTwist 16 = .ok (.lload_n 2, 1) := by decide +kernel
theorem dX2_changeTwist_17 : decode cX2_changeTwist 17 = .ok (.lastore, 1) := by decide +kernel
theorem dX2_changeTwist_18 : decode cX2_changeTwist 18 = .ok (.aload_n 0, 1) := by decide +kernel
theorem dX2_changeTwist_19 : decode cX2_changeTwist 19 = .ok (.getfield 57, 3) := by decide +kernel
theorem dX2_changeTwist_22 : decode cX2_changeTwist 22 = .ok (.iconst 4, 1) := by decide +kernel
theorem dX2_changeTwist_23 : decode cX2_changeTwist 23 = .ok (.dup2, 1) := by decide +kernel
theorem dX2_changeTwist_24 : decode cX2_changeTwist 24 = .ok (.iaload, 1) := by decide +kernel
theorem dX2_changeTwist_25 : decode cX2_changeTwist 25 = .ok (.iconst 1, 1) := by decide +kernel
theorem dX2_changeTwist_26 : decode cX2_changeTwist 26 = .ok (.iadd, 1) := by decide +kernel
theorem dX2_changeTwist_27 : decode cX2_changeTwist 27 = .ok (.iastore, 1) := by decide +kernel
theorem dX2_changeTwist_28 : decode cX2_changeTwist 28 = .ok (.return_, 1) := by decide +kernel
theorem dX2_clearChanges_0 : decode cX2_clearChanges 0 = .ok (.iconst 0, 1) := by decide +kernel
theorem dX2_clearChanges_1 : decode cX2_clearChanges 1 = .ok (.istore_n 1, 1) := by decide +kernel
theorem dX2_clearChanges_2 : decode cX2_clearChanges 2 = .ok (.iload_n 1, 1) := by decide +kernel
theorem dX2_clearChanges_3 : decode cX2_clearChanges 3 = .ok (.iconst 5, 1) := by decide +kernel
theorem dX2_clearChanges_4 : decode cX2_clearChanges 4 = .ok (.if_icmp .ge 16, 3) := by decide +kernel
theorem dX2_clearChanges_7 : decode cX2_clearChanges 7 = .ok (.aload_n 0, 1) := by decide +kernel
theorem dX2_clearChanges_8 : decode cX2_clearChanges 8 = .ok (.getfield 57, 3) := by decide +kernel
theorem dX2_clearChanges_11 : decode cX2_clearChanges 11 = .ok (.iload_n 1, 1) := by decide +kernel
theorem dX2_clearChanges_12 : decode cX2_clearChanges 12 = .ok (.iconst 0, 1) := by decide +kernel
theorem dX2_clearChanges_13 : decode cX2_clearChanges 13 = .ok (.iastore, 1) := by decide +kernel
theorem dX2_clearChanges_14 : decode cX2_clearChanges 14 = .ok (.iinc 1 1, 3) := by decide +kernel
end
section
theorem dX2_clearChanges_17 : decode cX2_clearChanges 17 = .ok (.goto (-15), 3) := by decide +kernel
theorem dX2_clearChanges_20 : decode cX2_clearChanges 20 = .ok (.return_, 1) := by decide +kernel
set_option maxRecDepth 20000 in
theorem ggX2_perform_X2_flip : GoodIn wsX2_perform wsX2_flip := goodIn_r _ [7, 1, 2, 8, 9, 10, 11, 12, 13, 14, 15, 16, 17, 18, 19, 20, 21, 22, 23, 24, 6, 25, 26, 27, 28, 29, 30, 31, 32, 33, 34, 35, 36, 37, 38, 39, 40, 41, 42, 174, 175, 176, 177, 178, 179, 180, 181, 182, 183, 184, 185, 186, 187, 188] (by decide +kernel) (by decide +kernel)
set_option maxRecDepth 20000 in
theorem gX2_perform_X2_flip : GoodIn wsX2_perform (wsV RX2 145 RX2 yX2_flip wsX2_flip) := goodIn_app (goodIn_of _ (by decide +kernel)) ggX2_perform_X2_flip
set_option maxRecDepth 20000 in
theorem ggX2_perform_X2_stretch : GoodIn wsX2_perform wsX2_stretch := goodIn_r _ [46, 1, 2, 8, 47, 48, 11, 49, 13, 50, 51, 52, 53, 54, 19, 55, 56, 57, 58, 21, 22, 23, 24, 6, 25, 26, 59, 60, 61, 62, 63, 64, 30, 31, 32, 33, 34, 35, 36, 37, 38, 39, 40, 41, 42, 174, 175, 176, 177, 178, 179, 180, 181, 182, 183, 184, 185, 186, 187, 188] (by decide +kernel) (by decide +kernel)
set_option maxRecDepth 20000 in
theorem gX2_perform_X2_stretch : GoodIn wsX2_perform (wsV RX2 148 RX2 yX2_stretch wsX2_stretch) := goodIn_app (goodIn_of _ (by decide +kernel)) ggX2_perform_X2_stretch
set_option maxRecDepth 20000 in
theorem ggX2_perform_X2_ease : GoodIn wsX2_perform wsX2_ease := goodIn_r _ [68, 1, 2, 8, 69, 70, 11, 71, 13, 72, 73, 74, 75, 76, 19, 77, 56, 57, 58, 21, 22, 23, 24, 6, 25, 26, 78, 79, 80, 62, 63, 64, 30, 31, 32, 33, 34, 35, 36, 37, 38, 39, 40, 41, 42, 174, 175, 176, 177, 178, 179, 180, 181, 182, 183, 184, 185, 186, 187, 188] (by decide +kernel) (by decide +kernel)
set_option maxRecDepth 20000 in
theorem gX2_perform_X2_ease : GoodIn wsX2_perform (wsV RX2 152 RX2 yX2_ease wsX2_ease) := goodIn_app (goodIn_of _ (by decide +kernel)) ggX2_perform_X2_ease
set_option maxRecDepth 20000 in
theorem ggX2_perform_X2_letToWhole : GoodIn wsX2_perform wsX2_letToWhole := goodIn_r _ [84, 1, 2, 17, 18, 19, 20, 21, 27, 28, 29, 30, 85, 86, 87, 88, 89, 90, 91, 92, 93, 94, 95, 96, 97, 98, 99, 100, 6, 101, 102, 103, 104, 105, 22, 23, 24, 25, 26, 106, 107, 108, 109, 31, 32, 33, 34, 174, 175, 176, 177, 178, 179, 180, 181, 182, 183, 184, 185, 186, 187, 188] (by decide +kernel) (by decide +kernel)
set_option maxRecDepth 20000 in
theorem gX2_perform_X2_letToWhole : GoodIn wsX2_perform (wsV RX2 155 RX2 yX2_letToWhole wsX2_letToWhole) := goodIn_app (goodIn_of _ (by decide +kernel)) ggX2_perform_X2_letToWhole
set_option maxRecDepth 20000 in
theorem ggX2_perform_X2_letNear : GoodIn wsX2_perform wsX2_letNear := goodIn_r _ [113, 1, 2, 17, 18, 19, 20, 21, 114, 115, 116, 88, 89, 90, 91, 92, 93, 94, 95, 96, 27, 28, 29, 30, 98, 99, 100, 6, 101, 102, 103, 104, 105, 22, 23, 24, 25, 26, 106, 107, 108, 109, 31, 32, 33, 34, 174, 175, 176, 177, 178, 179, 180, 181, 182, 183, 184, 185, 186, 187, 188] (by decide +kernel) (by decide +kernel)
set_option maxRecDepth 20000 in
theorem gX2_perform_X2_letNear : GoodIn wsX2_perform (wsV RX2 159 RX2 yX2_letNear wsX2_letNear) := goodIn_app (goodIn_of _ (by decide +kernel)) ggX2_perform_X2_letNear
set_option maxRecDepth 20000 in
theorem ggX2_perform_X2_lean : GoodIn wsX2_perform wsX2_lean := goodIn_r _ [120, 1, 121, 122, 2, 123, 124, 17, 18, 19, 20, 21, 102, 103, 104, 105, 27, 28, 29, 30, 106, 107, 108, 109, 174, 175, 176, 177, 178, 179, 180, 181, 182, 183, 184, 185, 186, 187, 188] (by decide +kernel) (by decide +kernel)
set_option maxRecDepth 20000 in
theorem gX2_perform_X2_lean : GoodIn wsX2_perform (wsV RX2 162 RX2 yX2_lean wsX2_lean) := goodIn_app (goodIn_of _ (by decide +kernel)) ggX2_perform_X2_lean
set_option maxRecDepth 20000 in
theorem ggX2_perform_X2_mirror : GoodIn wsX2_perform wsX2_mirror := goodIn_r _ [128, 1, 2, 17, 18, 19, 20, 21, 102, 103, 104, 105, 22, 23, 24, 6, 25, 26, 27, 28, 29, 30, 106, 107, 108, 109, 31, 32, 33, 34, 174, 175, 176, 177, 178, 179, 180, 181, 182, 183, 184, 185, 186, 187, 188] (by decide +kernel) (by decide +kernel)
set_option maxRecDepth 20000 in
theorem gX2_perform_X2_mirror : GoodIn wsX2_perform (wsV RX2 165 RX2 yX2_mirror wsX2_mirror) := goodIn_app (goodIn_of _ (by decide +kernel)) ggX2_perform_X2_mirror
set_option maxRecDepth 20000 in
theorem ggX2_perform_X2_hold : GoodIn wsX2_perform wsX2_hold := goodIn_r _ [132, 1, 133, 134, 53, 54, 19, 55, 56, 57, 58, 21, 75, 76, 77, 22, 23, 24, 6, 25, 26, 174, 175, 176, 177, 178, 179, 180, 181, 182, 183, 184, 185, 186, 187, 188] (by decide +kernel) (by decide +kernel)
set_option maxRecDepth 20000 in
theorem gX2_perform_X2_hold : GoodIn wsX2_perform (wsV RX2 168 RX2 yX2_hold wsX2_hold) := goodIn_app (goodIn_of _ (by decide +kernel)) ggX2_perform_X2_hold
set_option maxRecDepth 20000 in
theorem ggX2_perform_X2_placeStops : GoodIn wsX2_perform wsX2_placeStops := goodIn_r _ [138, 133, 1, 134, 75, 76, 19, 77, 56, 57, 58, 21, 53, 54, 55, 174, 175, 176, 177, 178, 179, 180, 181, 182, 183, 184, 185, 186, 187, 188] (by decide +kernel) (by decide +kernel)
set_option maxRecDepth 20000 in
theorem gX2_perform_X2_placeStops : GoodIn wsX2_perform (wsV RX2 171 RX2 yX2_placeStops wsX2_placeStops) := goodIn_app (goodIn_of _ (by decide +kernel)) ggX2_perform_X2_placeStops
set_option maxRecDepth 20000 in
theorem ggX2_perform_X2_gather : GoodIn wsX2_perform wsX2_gather := goodIn_r _ [142, 121, 1, 123, 2, 143, 8, 9, 10, 11, 12, 47, 48, 49, 144, 13, 14, 15, 16, 72, 73, 74, 17, 18, 19, 20, 21, 53, 54, 55, 56, 57, 58, 27, 28, 29, 30, 78, 79, 80, 62, 63, 64, 174, 175, 176, 177, 178, 179, 180, 181, 182, 183, 184, 185, 186, 187, 188] (by decide +kernel) (by decide +kernel)
set_option maxRecDepth 20000 in
theorem gX2_perform_X2_gather : GoodIn wsX2_perform (wsV RX2 174 RX2 yX2_gather wsX2_gather) := goodIn_app (goodIn_of _ (by decide +kernel)) ggX2_perform_X2_gather
set_option maxRecDepth 20000 in
theorem ggX2_perform_X2_trade : GoodIn wsX2_perform wsX2_trade := goodIn_r _ [148, 1, 2, 8, 13, 133, 134, 22, 23, 24, 6, 25, 26, 31, 32, 33, 34, 35, 36, 37, 38, 39, 40, 41, 42, 174, 175, 176, 177, 178, 179, 180, 181, 182, 183, 184, 185, 186, 187, 188] (by decide +kernel) (by decide +kernel)
set_option maxRecDepth 20000 in
theorem gX2_perform_X2_trade : GoodIn wsX2_perform (wsV RX2 177 RX2 yX2_trade wsX2_trade) := goodIn_app (goodIn_of _ (by decide +kernel)) ggX2_perform_X2_trade
set_option maxRecDepth 20000 in
theorem ggX2_perform_X2_climb : GoodIn wsX2_perform wsX2_climb := goodIn_r _ [152, 1, 8, 2, 13, 17, 18, 19, 20, 21, 35, 36, 37, 6, 38, 26, 27, 28, 29, 30, 39, 40, 41, 42, 174, 175, 176, 177, 178, 179, 180, 181, 182, 183, 184, 185, 186, 187, 188] (by decide +kernel) (by decide +kernel)
set_option maxRecDepth 20000 in
theorem gX2_perform_X2_climb : GoodIn wsX2_perform (wsV RX2 180 RX2 yX2_climb wsX2_climb) := goodIn_app (goodIn_of _ (by decide +kernel)) ggX2_perform_X2_climb
set_option maxRecDepth 20000 in
theorem ggX2_perform_X2_halve : GoodIn wsX2_perform wsX2_halve := goodIn_r _ [156, 1, 157, 2, 158, 17, 18, 19, 20, 21, 159, 160, 161, 162, 27, 28, 29, 30, 98, 99, 100, 6, 101, 102, 103, 104, 105, 22, 23, 24, 25, 26, 106, 107, 108, 109, 31, 32, 33, 34, 174, 175, 176, 177, 178, 179, 180, 181, 182, 183, 184, 185, 186, 187, 188] (by decide +kernel) (by decide +kernel)
set_option maxRecDepth 20000 in
theorem gX2_perform_X2_halve : GoodIn wsX2_perform (wsV RX2 183 RX2 yX2_halve wsX2_halve) := goodIn_app (goodIn_of _ (by decide +kernel)) ggX2_perform_X2_halve
set_option maxRecDepth 20000 in
theorem ggX2_perform_X2_makeTwice : GoodIn wsX2_perform wsX2_makeTwice := goodIn_r _ [166, 1, 157, 2, 158, 17, 18, 19, 20, 21, 167, 168, 169, 27, 28, 29, 30, 98, 99, 100, 6, 101, 102, 103, 104, 105, 22, 23, 24, 25, 26, 106, 107, 108, 109, 31, 32, 33, 34, 174, 175, 176, 177, 178, 179, 180, 181, 182, 183, 184, 185, 186, 187, 188] (by decide +kernel) (by decide +kernel)
set_option maxRecDepth 20000 in
theorem gX2_perform_X2_makeTwice : GoodIn wsX2_perform (wsV RX2 186 RX2 yX2_makeTwice wsX2_makeTwice) := goodIn_app (goodIn_of _ (by decide +kernel)) ggX2_perform_X2_makeTwice
set_option maxRecDepth 20000 in
theorem ggX2_perform_X2_give : GoodIn wsX2_perform wsX2_give := goodIn_r _ [173, 121, 123, 143, 144, 22, 23, 24, 6, 25, 1, 26, 31, 32, 33, 34, 2, 35, 36, 37, 38, 8, 39, 40, 41, 42, 13, 174, 175, 176, 177, 178, 179, 180, 181, 182, 183, 184, 185, 186, 187, 188] (by decide +kernel) (by decide +kernel)
set_option maxRecDepth 20000 in
theorem gX2_perform_X2_give : GoodIn wsX2_perform (wsV RX2 189 RX2 yX2_give wsX2_give) := goodIn_app (goodIn_of _ (by decide +kernel)) ggX2_perform_X2_give
theorem dX2_perform_0 : decode cX2_perform 0 = .ok (.iload_n 1, 1) := by decide +kernel
theorem dX2_perform_1 : decode cX2_perform 1 = .ok (.tableswitch 272 0 15 #[79, 87, 96, 105, 143, 181, 189, 197, 206, 214, 223, 231, 240, 248, 256, 264], 79) := by decide +kernel
theorem dX2_perform_80 : decode cX2_perform 80 = .ok (.aload_n 0, 1) := by decide +kernel
theorem dX2_perform_81 : decode cX2_perform 81 = .ok (.iload_n 2, 1) := by decide +kernel
theorem dX2_perform_82 : decode cX2_perform 82 = .ok (.invokevirtual 145, 3) := by decide +kernel
theorem dX2_perform_85 : decode cX2_perform 85 = .ok (.goto 188, 3) := by decide +kernel
theorem dX2_perform_88 : decode cX2_perform 88 = .ok (.aload_n 0, 1) := by decide +kernel
theorem dX2_perform_89 : decode cX2_perform 89 = .ok (.iload_n 2, 1) := by decide +kernel
theorem dX2_perform_90 : decode cX2_perform 90 = .ok (.iload_n 3, 1) := by decide +kernel
theorem dX2_perform_91 : decode cX2_perform 91 = .ok (.invokevirtual 148, 3) := by decide +kernel
theorem dX2_perform_94 : decode cX2_perform 94 = .ok (.goto 179, 3) := by decide +kernel
theorem dX2_perform_97 : decode cX2_perform 97 = .ok (.aload_n 0, 1) := by decide +kernel
theorem dX2_perform_98 : decode cX2_perform 98 = .ok (.iload_n 2, 1) := by decide +kernel
theorem dX2_perform_99 : decode cX2_perform 99 = .ok (.iload_n 3, 1) := by decide +kernel
theorem dX2_perform_100 : decode cX2_perform 100 = .ok (.invokevirtual 152, 3) := by decide +kernel
theorem dX2_perform_103 : decode cX2_perform 103 = .ok (.goto 170, 3) := by decide +kernel
theorem dX2_perform_106 : decode cX2_perform 106 = .ok (.aload_n 0, 1) := by decide +kernel
theorem dX2_perform_107 : decode cX2_perform 107 = .ok (.iload_n 2, 1) := by decide +kernel
theorem dX2_perform_108 : decode cX2_perform 108 = .ok (.aload_n 0, 1) := by decide +kernel
theorem dX2_perform_109 : decode cX2_perform 109 = .ok (.getfield 9, 3) := by decide +kernel
theorem dX2_perform_112 : decode cX2_perform 112 = .ok (.iload_n 2, 1) := by decide +kernel
theorem dX2_perform_113 : decode cX2_perform 113 = .ok (.laload, 1) := by decide +kernel
theorem dX2_perform_114 : decode cX2_perform 114 = .ok (.lconst 0, 1) := by decide +kernel
theorem dX2_perform_115 : decode cX2_perform 115 = .ok (.lcmp, 1) := by decide +kernel
theorem dX2_perform_116 : decode cX2_perform 116 = .ok (.ifCond .ge 7, 3) := by decide +kernel
theorem dX2_perform_119 : decode cX2_perform 119 = .ok (.iconst 1, 1) := by decide +kernel
theorem dX2_perform_120 : decode cX2_perform 120 = .ok (.goto 4, 3) := by decide +kernel
theorem dX2_perform_123 : decode cX2_perform 123 = .ok (.iconst 0, 1) := by decide +kernel
theorem dX2_perform_124 : decode cX2_perform 124 = .ok (.aload_n 0, 1) := by decide +kernel
theorem dX2_perform_125 : decode cX2_perform 125 = .ok (.getfield 13, 3) := by decide +kernel
theorem dX2_perform_128 : decode cX2_perform 128 = .ok (.iload_n 2, 1) := by decide +kernel
theorem dX2_perform_129 : decode cX2_perform 129 = .ok (.iaload, 1) := by decide +kernel
theorem dX2_perform_130 : decode cX2_perform 130 = .ok (.ifCond .ge 7, 3) := by decide +kernel
theorem dX2_perform_133 : decode cX2_perform 133 = .ok (.iconst 1, 1) := by decide +kernel
theorem dX2_perform_134 : decode cX2_perform 134 = .ok (.goto 4, 3) := by decide +kernel
theorem dX2_perform_137 : decode cX2_perform 137 = .ok (.iconst 0, 1) := by decide +kernel
theorem dX2_perform_138 : decode cX2_perform 138 = .ok (.invokevirtual 155, 3) := by decide +kernel
theorem dX2_perform_141 : decode cX2_perform 141 = .ok (.goto 132, 3) := by decide +kernel
theorem dX2_perform_144 : decode cX2_perform 144 = .ok (.aload_n 0, 1) := by decide +kernel
theorem dX2_perform_145 : decode cX2_perform 145 = .ok (.iload_n 2, 1) := by decide +kernel
theorem dX2_perform_146 : decode cX2_perform 146 = .ok (.aload_n 0, 1) := by decide +kernel
theorem dX2_perform_147 : decode cX2_perform 147 = .ok (.getfield 9, 3) := by decide +kernel
theorem dX2_perform_150 : decode cX2_perform 150 = .ok (.iload_n 2, 1) := by decide +kernel
theorem dX2_perform_151 : decode cX2_perform 151 = .ok (.laload, 1) := by decide +kernel
theorem dX2_perform_152 : decode cX2_perform 152 = .ok (.lconst 0, 1) := by decide +kernel
theorem dX2_perform_153 : decode cX2_perform 153 = .ok (.lcmp, 1) := by decide +kernel
theorem dX2_perform_154 : decode cX2_perform 154 = .ok (.ifCond .lt 7, 3) := by decide +kernel
theorem dX2_perform_157 : decode cX2_perform 157 = .ok (.iconst 1, 1) := by decide +kernel
theorem dX2_perform_158 : decode cX2_perform 158 = .ok (.goto 4, 3) := by decide +kernel
theorem dX2_perform_161 : decode cX2_perform 161 = .ok (.iconst 0, 1) := by decide +kernel
theorem dX2_perform_162 : decode cX2_perform 162 = .ok (.aload_n 0, 1) := by decide +kernel
theorem dX2_perform_163 : decode cX2_perform 163 = .ok (.getfield 13, 3) := by decide +kernel
theorem dX2_perform_166 : decode cX2_perform 166 = .ok (.iload_n 2, 1) := by decide +kernel
theorem dX2_perform_167 : decode cX2_perform 167 = .ok (.iaload, 1) := by decide +kernel
theorem dX2_perform_168 : decode cX2_perform 168 = .ok (.ifCond .lt 7, 3) := by decide +kernel
theorem dX2_perform_171 : decode cX2_perform 171 = .ok (.iconst 1, 1) := by decide +kernel
theorem dX2_perform_172 : decode cX2_perform 172 = .ok (.goto 4, 3) := by decide +kernel
theorem dX2_perform_175 : decode cX2_perform 175 = .ok (.iconst 0, 1) := by decide +kernel
theorem dX2_perform_176 : decode cX2_perform 176 = .ok (.invokevirtual 155, 3) := by decide +kernel
theorem dX2_perform_179 : decode cX2_perform 179 = .ok (.goto 94, 3) := by decide +kernel
theorem dX2_perform_182 : decode cX2_perform 182 = .ok (.aload_n 0, 1) := by decide +kernel
theorem dX2_perform_183 : decode cX2_perform 183 = .ok (.iload_n 2, 1) := by decide +kernel
theorem dX2_perform_184 : decode cX2_perform 184 = .ok (.invokevirtual 159, 3) := by decide +kernel
theorem dX2_perform_187 : decode cX2_perform 187 = .ok (.goto 86, 3) := by decide +kernel
theorem dX2_perform_190 : decode cX2_perform 190 = .ok (.aload_n 0, 1) := by decide +kernel
theorem dX2_perform_191 : decode cX2_perform 191 = .ok (.iload_n 2, 1) := by decide +kernel
theorem dX2_perform_192 : decode cX2_perform 192 = .ok (.invokevirtual 162, 3) := by decide +kernel
theorem dX2_perform_195 : decode cX2_perform 195 = .ok (.goto 78, 3) := by decide +kernel
theorem dX2_perform_198 : decode cX2_perform 198 = .ok (.aload_n 0, 1) := by decide +kernel
theorem dX2_perform_199 : decode cX2_perform 199 = .ok (.iload_n 2, 1) := by decide +kernel
theorem dX2_perform_200 : decode cX2_perform 200 = .ok (.iload_n 3, 1) := by decide +kernel
theorem dX2_perform_201 : decode cX2_perform 201 = .ok (.invokevirtual 165, 3) := by decide +kernel
theorem dX2_perform_204 : decode cX2_perform 204 = .ok (.goto 69, 3) := by decide +kernel
theorem dX2_perform_207 : decode cX2_perform 207 = .ok (.aload_n 0, 1) := by decide +kernel
theorem dX2_perform_208 : decode cX2_perform 208 = .ok (.iload_n 2, 1) := by decide +kernel
theorem dX2_perform_209 : decode cX2_perform 209 = .ok (.invokevirtual 168, 3) := by decide +kernel
theorem dX2_perform_212 : decode cX2_perform 212 = .ok (.goto 61, 3) := by decide +kernel
theorem dX2_perform_215 : decode cX2_perform 215 = .ok (.aload_n 0, 1) := by decide +kernel
theorem dX2_perform_216 : decode cX2_perform 216 = .ok (.iload_n 2, 1) := by decide +kernel
theorem dX2_perform_217 : decode cX2_perform 217 = .ok (.iload_n 3, 1) := by decide +kernel
theorem dX2_perform_218 : decode cX2_perform 218 = .ok (.invokevirtual 171, 3) := by decide +kernel
theorem dX2_perform_221 : decode cX2_perform 221 = .ok (.goto 52, 3) := by decide +kernel
theorem dX2_perform_224 : decode cX2_perform 224 = .ok (.aload_n 0, 1) := by decide +kernel
theorem dX2_perform_225 : decode cX2_perform 225 = .ok (.iload_n 2, 1) := by decide +kernel
theorem dX2_perform_226 : decode cX2_perform 226 = .ok (.invokevirtual 174, 3) := by decide +kernel
theorem dX2_perform_229 : decode cX2_perform 229 = .ok (.goto 44, 3) := by decide +kernel
theorem dX2_perform_232 : decode cX2_perform 232 = .ok (.aload_n 0, 1) := by decide +kernel
theorem dX2_perform_233 : decode cX2_perform 233 = .ok (.iload_n 2, 1) := by decide +kernel
theorem dX2_perform_234 : decode cX2_perform 234 = .ok (.iload_n 3, 1) := by decide +kernel
theorem dX2_perform_235 : decode cX2_perform 235 = .ok (.invokevirtual 177, 3) := by decide +kernel
theorem dX2_perform_238 : decode cX2_perform 238 = .ok (.goto 35, 3) := by decide +kernel
theorem dX2_perform_241 : decode cX2_perform 241 = .ok (.aload_n 0, 1) := by decide +kernel
theorem dX2_perform_242 : decode cX2_perform 242 = .ok (.iload_n 2, 1) := by decide +kernel
theorem dX2_perform_243 : decode cX2_perform 243 = .ok (.invokevirtual 180, 3) := by decide +kernel
theorem dX2_perform_246 : decode cX2_perform 246 = .ok (.goto 27, 3) := by decide +kernel
theorem dX2_perform_249 : decode cX2_perform 249 = .ok (.aload_n 0, 1) := by decide +kernel
theorem dX2_perform_250 : decode cX2_perform 250 = .ok (.iload_n 2, 1) := by decide +kernel
theorem dX2_perform_251 : decode cX2_perform 251 = .ok (.invokevirtual 183, 3) := by decide +kernel
theorem dX2_perform_254 : decode cX2_perform 254 = .ok (.goto 19, 3) := by decide +kernel
theorem dX2_perform_257 : decode cX2_perform 257 = .ok (.aload_n 0, 1) := by decide +kernel
theorem dX2_perform_258 : decode cX2_perform 258 = .ok (.iload_n 2, 1) := by decide +kernel
theorem dX2_perform_259 : decode cX2_perform 259 = .ok (.invokevirtual 186, 3) := by decide +kernel
theorem dX2_perform_262 : decode cX2_perform 262 = .ok (.goto 11, 3) := by decide +kernel
theorem dX2_perform_265 : decode cX2_perform 265 = .ok (.aload_n 0, 1) := by decide +kernel
theorem dX2_perform_266 : decode cX2_perform 266 = .ok (.iload_n 2, 1) := by decide +kernel
theorem dX2_perform_267 : decode cX2_perform 267 = .ok (.invokevirtual 189, 3) := by decide +kernel
theorem dX2_perform_270 : decode cX2_perform 270 = .ok (.goto 3, 3) := by decide +kernel
theorem dX2_perform_273 : decode cX2_perform 273 = .ok (.return_, 1) := by decide +kernel
set_option maxRecDepth 20000 in
theorem ggX2_flip_X1_amount : GoodIn wsX2_flip wsX1_amount := goodIn_r _ [15, 16] (by decide +kernel) (by decide +kernel)
set_option maxRecDepth 20000 in
theorem gX2_flip_X1_amount : GoodIn wsX2_flip (va_wsS RX2 127 yX1_amount wsX1_amount) := goodIn_app (goodIn_of _ (by decide +kernel)) ggX2_flip_X1_amount
set_option maxRecDepth 20000 in
theorem ggX2_flip_X2_changeLength : GoodIn wsX2_flip wsX2_changeLength := goodIn_r _ [21, 1, 22, 39, 40, 41, 42, 43, 44, 45, 46, 47, 48, 49, 50, 51, 52, 53] (by decide +kernel) (by decide +kernel)
set_option maxRecDepth 20000 in
theorem gX2_flip_X2_changeLength : GoodIn wsX2_flip (wsV RX2 192 RX2 yX2_changeLength wsX2_changeLength) := goodIn_app (goodIn_of _ (by decide +kernel)) ggX2_flip_X2_changeLength
set_option maxRecDepth 20000 in
theorem ggX2_flip_X1_shortAmount : GoodIn wsX2_flip wsX1_shortAmount := goodIn_r _ [25, 26] (by decide +kernel) (by decide +kernel)
set_option maxRecDepth 20000 in
theorem gX2_flip_X1_shortAmount : GoodIn wsX2_flip (va_wsS RX2 135 yX1_shortAmount wsX1_shortAmount) := goodIn_app (goodIn_of _ (by decide +kernel)) ggX2_flip_X1_shortAmount
set_option maxRecDepth 20000 in
theorem ggX2_flip_X2_changePull : GoodIn wsX2_flip wsX2_changePull := goodIn_r _ [30, 2, 22, 39, 40, 41, 42, 43, 44, 45, 46, 47, 48, 49, 50, 51, 52, 53] (by decide +kernel) (by decide +kernel)
set_option maxRecDepth 20000 in
theorem gX2_flip_X2_changePull : GoodIn wsX2_flip (wsV RX2 196 RX2 yX2_changePull wsX2_changePull) := goodIn_app (goodIn_of _ (by decide +kernel)) ggX2_flip_X2_changePull
set_option maxRecDepth 20000 in
theorem ggX2_flip_X2_changeKnots : GoodIn wsX2_flip wsX2_changeKnots := goodIn_r _ [34, 3, 22, 39, 40, 41, 42, 43, 44, 45, 46, 47, 48, 49, 50, 51, 52, 53] (by decide +kernel) (by decide +kernel)
set_option maxRecDepth 20000 in
theorem gX2_flip_X2_changeKnots : GoodIn wsX2_flip (wsV RX2 204 RX2 yX2_changeKnots wsX2_changeKnots) := goodIn_app (goodIn_of _ (by decide +kernel)) ggX2_flip_X2_changeKnots
set_option maxRecDepth 20000 in
theorem ggX2_flip_X2_changeTwist : GoodIn wsX2_flip wsX2_changeTwist := goodIn_r _ [38, 8, 22, 39, 40, 41, 42, 43, 44, 45, 46, 47, 48, 49, 50, 51, 52, 53] (by decide +kernel) (by decide +kernel)
set_option maxRecDepth 20000 in
theorem gX2_flip_X2_changeTwist : GoodIn wsX2_flip (wsV RX2 209 RX2 yX2_changeTwist wsX2_changeTwist) := goodIn_app (goodIn_of _ (by decide +kernel)) ggX2_flip_X2_changeTwist
theorem dX2_flip_0 : decode cX2_flip 0 = .ok (.aload_n 0, 1) := by decide +kernel
theorem dX2_flip_1 : decode cX2_flip 1 = .ok (.iload_n 1, 1) := by decide +kernel
theorem dX2_flip_2 : decode cX2_flip 2 = .ok (.aload_n 0, 1) := by decide +kernel
theorem dX2_flip_3 : decode cX2_flip 3 = .ok (.getfield 9, 3) := by decide +kernel
theorem dX2_flip_6 : decode cX2_flip 6 = .ok (.iload_n 1, 1) := by decide +kernel
theorem dX2_flip_7 : decode cX2_flip 7 = .ok (.laload, 1) := by decide +kernel
theorem dX2_flip_8 : decode cX2_flip 8 = .ok (.invokestatic 127, 3) := by decide +kernel
theorem dX2_flip_11 : decode cX2_flip 11 = .ok (.invokevirtual 192, 3) := by decide +kernel
theorem dX2_flip_14 : decode cX2_flip 14 = .ok (.aload_n 0, 1) := by decide +kernel
theorem dX2_flip_15 : decode cX2_flip 15 = .ok (.iload_n 1, 1) := by decide +kernel
theorem dX2_flip_16 : decode cX2_flip 16 = .ok (.aload_n 0, 1) := by decide +kernel
theorem dX2_flip_17 : decode cX2_flip 17 = .ok (.getfield 13, 3) := by decide +kernel
theorem dX2_flip_20 : decode cX2_flip 20 = .ok (.iload_n 1, 1) := by decide +kernel
theorem dX2_flip_21 : decode cX2_flip 21 = .ok (.iaload, 1) := by decide +kernel
theorem dX2_flip_22 : decode cX2_flip 22 = .ok (.invokestatic 135, 3) := by decide +kernel
theorem dX2_flip_25 : decode cX2_flip 25 = .ok (.invokevirtual 196, 3) := by decide +kernel
theorem dX2_flip_28 : decode cX2_flip 28 = .ok (.aload_n 0, 1) := by decide +kernel
theorem dX2_flip_29 : decode cX2_flip 29 = .ok (.iload_n 1, 1) := by decide +kernel
theorem dX2_flip_30 : decode cX2_flip 30 = .ok (.aload_n 0, 1) := by decide +kernel
theorem dX2_flip_31 : decode cX2_flip 31 = .ok (.getfield 17, 3) := by decide +kernel
theorem dX2_flip_34 : decode cX2_flip 34 = .ok (.iload_n 1, 1) := by decide +kernel
theorem dX2_flip_35 : decode cX2_flip 35 = .ok (.iaload, 1) := by decide +kernel
theorem dX2_flip_36 : decode cX2_flip 36 = .ok (.invokestatic 199, 3) := by decide +kernel
theorem dX2_flip_39 : decode cX2_flip 39 = .ok (.invokevirtual 204, 3) := by decide +kernel
theorem dX2_flip_42 : decode cX2_flip 42 = .ok (.aload_n 0, 1) := by decide +kernel
theorem dX2_flip_43 : decode cX2_flip 43 = .ok (.iload_n 1, 1) := by decide +kernel
theorem dX2_flip_44 : decode cX2_flip 44 = .ok (.aload_n 0, 1) := by decide +kernel
theorem dX2_flip_45 : decode cX2_flip 45 = .ok (.getfield 20, 3) := by decide +kernel
theorem dX2_flip_48 : decode cX2_flip 48 = .ok (.iload_n 1, 1) := by decide +kernel
theorem dX2_flip_49 : decode cX2_flip 49 = .ok (.laload, 1) := by decide +kernel
theorem dX2_flip_50 : decode cX2_flip 50 = .ok (.invokestatic 207, 3) := by decide +kernel
theorem dX2_flip_53 : decode cX2_flip 53 = .ok (.invokevirtual 209, 3) := by decide +kernel
theorem dX2_flip_56 : decode cX2_flip 56 = .ok (.return_, 1) := by decide +kernel
set_option maxRecDepth 20000 in
theorem ggX2_stretch_X1_greater : GoodIn wsX2_stretch wsX1_greater := goodIn_r _ [15, 16, 17, 14, 18, 19] (by decide +kernel) (by decide +kernel)
set_option maxRecDepth 20000 in
theorem gX2_stretch_X1_greater : GoodIn wsX2_stretch (va_wsS RX2 212 yX1_greater wsX1_greater) := goodIn_app (goodIn_of _ (by decide +kernel)) ggX2_stretch_X1_greater
set_option maxRecDepth 20000 in
theorem ggX2_stretch_X2_changeLength : GoodIn wsX2_stretch wsX2_changeLength := goodIn_r _ [24, 1, 25, 45, 46, 47, 48, 49, 50, 51, 52, 53, 54, 55, 56, 57, 58, 59] (by decide +kernel) (by decide +kernel)
set_option maxRecDepth 20000 in
theorem gX2_stretch_X2_changeLength : GoodIn wsX2_stretch (wsV RX2 192 RX2 yX2_changeLength wsX2_changeLength) := goodIn_app (goodIn_of _ (by decide +kernel)) ggX2_stretch_X2_changeLength
set_option maxRecDepth 20000 in
theorem ggX2_stretch_X1_shortGreater : GoodIn wsX2_stretch wsX1_shortGreater := goodIn_r _ [28, 29, 30, 14, 31, 32] (by decide +kernel) (by decide +kernel)
set_option maxRecDepth 20000 in
theorem gX2_stretch_X1_shortGreater : GoodIn wsX2_stretch (va_wsS RX2 216 yX1_shortGreater wsX1_shortGreater) := goodIn_app (goodIn_of _ (by decide +kernel)) ggX2_stretch_X1_shortGreater
set_option maxRecDepth 20000 in
theorem ggX2_stretch_X2_changePull : GoodIn wsX2_stretch wsX2_changePull := goodIn_r _ [36, 2, 25, 45, 46, 47, 48, 49, 50, 51, 52, 53, 54, 55, 56, 57, 58, 59] (by decide +kernel) (by decide +kernel)
set_option maxRecDepth 20000 in
theorem gX2_stretch_X2_changePull : GoodIn wsX2_stretch (wsV RX2 196 RX2 yX2_changePull wsX2_changePull) := goodIn_app (goodIn_of _ (by decide +kernel)) ggX2_stretch_X2_changePull
set_option maxRecDepth 20000 in
theorem ggX2_stretch_X2_changeKnots : GoodIn wsX2_stretch wsX2_changeKnots := goodIn_r _ [40, 3, 25, 45, 46, 47, 48, 49, 50, 51, 52, 53, 54, 55, 56, 57, 58, 59] (by decide +kernel) (by decide +kernel)
set_option maxRecDepth 20000 in
theorem gX2_stretch_X2_changeKnots : GoodIn wsX2_stretch (wsV RX2 204 RX2 yX2_changeKnots wsX2_changeKnots) := goodIn_app (goodIn_of _ (by decide +kernel)) ggX2_stretch_X2_changeKnots
set_option maxRecDepth 20000 in
theorem ggX2_stretch_X2_changeTwist : GoodIn wsX2_stretch wsX2_changeTwist := goodIn_r _ [44, 8, 25, 45, 46, 47, 48, 49, 50, 51, 52, 53, 54, 55, 56, 57, 58, 59] (by decide +kernel) (by decide +kernel)
set_option maxRecDepth 20000 in
theorem gX2_stretch_X2_changeTwist : GoodIn wsX2_stretch (wsV RX2 209 RX2 yX2_changeTwist wsX2_changeTwist) := goodIn_app (goodIn_of _ (by decide +kernel)) ggX2_stretch_X2_changeTwist
theorem dX2_stretch_0 : decode cX2_stretch 0 = .ok (.aload_n 0, 1) := by decide +kernel
theorem dX2_stretch_1 : decode cX2_stretch 1 = .ok (.iload_n 1, 1) := by decide +kernel
theorem dX2_stretch_2 : decode cX2_stretch 2 = .ok (.aload_n 0, 1) := by decide +kernel
theorem dX2_stretch_3 : decode cX2_stretch 3 = .ok (.getfield 9, 3) := by decide +kernel
theorem dX2_stretch_6 : decode cX2_stretch 6 = .ok (.iload_n 1, 1) := by decide +kernel
theorem dX2_stretch_7 : decode cX2_stretch 7 = .ok (.laload, 1) := by decide +kernel
theorem dX2_stretch_8 : decode cX2_stretch 8 = .ok (.aload_n 0, 1) := by decide +kernel
theorem dX2_stretch_9 : decode cX2_stretch 9 = .ok (.getfield 9, 3) := by decide +kernel
theorem dX2_stretch_12 : decode cX2_stretch 12 = .ok (.iload_n 2, 1) := by decide +kernel
theorem dX2_stretch_13 : decode cX2_stretch 13 = .ok (.laload, 1) := by decide +kernel
theorem dX2_stretch_14 : decode cX2_stretch 14 = .ok (.invokestatic 212, 3) := by decide +kernel
theorem dX2_stretch_17 : decode cX2_stretch 17 = .ok (.invokevirtual 192, 3) := by decide +kernel
theorem dX2_stretch_20 : decode cX2_stretch 20 = .ok (.aload_n 0, 1) := by decide +kernel
theorem dX2_stretch_21 : decode cX2_stretch 21 = .ok (.iload_n 1, 1) := by decide +kernel
theorem dX2_stretch_22 : decode cX2_stretch 22 = .ok (.aload_n 0, 1) := by decide +kernel
theorem dX2_stretch_23 : decode cX2_stretch 23 = .ok (.getfield 13, 3) := by decide +kernel
theorem dX2_stretch_26 : decode cX2_stretch 26 = .ok (.iload_n 1, 1) := by decide +kernel
theorem dX2_stretch_27 : decode cX2_stretch 27 = .ok (.iaload, 1) := by decide +kernel
theorem dX2_stretch_28 : decode cX2_stretch 28 = .ok (.aload_n 0, 1) := by decide +kernel
theorem dX2_stretch_29 : decode cX2_stretch 29 = .ok (.getfield 13, 3) := by decide +kernel
theorem dX2_stretch_32 : decode cX2_stretch 32 = .ok (.iload_n 2, 1) := by decide +kernel
theorem dX2_stretch_33 : decode cX2_stretch 33 = .ok (.iaload, 1) := by decide +kernel
theorem dX2_stretch_34 : decode cX2_stretch 34 = .ok (.invokestatic 216, 3) := by decide +kernel
theorem dX2_stretch_37 : decode cX2_stretch 37 = .ok (.invokevirtual 196, 3) := by decide +kernel
theorem dX2_stretch_40 : decode cX2_stretch 40 = .ok (.aload_n 0, 1) := by decide +kernel
theorem dX2_stretch_41 : decode cX2_stretch 41 = .ok (.iload_n 1, 1) := by decide +kernel
theorem dX2_stretch_42 : decode cX2_stretch 42 = .ok (.aload_n 0, 1) := by decide +kernel
theorem dX2_stretch_43 : decode cX2_stretch 43 = .ok (.getfield 17, 3) := by decide +kernel
theorem dX2_stretch_46 : decode cX2_stretch 46 = .ok (.iload_n 1, 1) := by decide +kernel
theorem dX2_stretch_47 : decode cX2_stretch 47 = .ok (.iaload, 1) := by decide +kernel
theorem dX2_stretch_48 : decode cX2_stretch 48 = .ok (.aload_n 0, 1) := by decide +kernel
theorem dX2_stretch_49 : decode cX2_stretch 49 = .ok (.getfield 17, 3) := by decide +kernel
theorem dX2_stretch_52 : decode cX2_stretch 52 = .ok (.iload_n 2, 1) := by decide +kernel
theorem dX2_stretch_53 : decode cX2_stretch 53 = .ok (.iaload, 1) := by decide +kernel
theorem dX2_stretch_54 : decode cX2_stretch 54 = .ok (.invokestatic 219, 3) := by decide +kernel
theorem dX2_stretch_57 : decode cX2_stretch 57 = .ok (.invokevirtual 204, 3) := by decide +kernel
theorem dX2_stretch_60 : decode cX2_stretch 60 = .ok (.aload_n 0, 1) := by decide +kernel
theorem dX2_stretch_61 : decode cX2_stretch 61 = .ok (.iload_n 1, 1) := by decide +kernel
theorem dX2_stretch_62 : decode cX2_stretch 62 = .ok (.aload_n 0, 1) := by decide +kernel
theorem dX2_stretch_63 : decode cX2_stretch 63 = .ok (.getfield 20, 3) := by decide +kernel
theorem dX2_stretch_66 : decode cX2_stretch 66 = .ok (.iload_n 1, 1) := by decide +kernel
theorem dX2_stretch_67 : decode cX2_stretch 67 = .ok (.laload, 1) := by decide +kernel
theorem dX2_stretch_68 : decode cX2_stretch 68 = .ok (.aload_n 0, 1) := by decide +kernel
theorem dX2_stretch_69 : decode cX2_stretch 69 = .ok (.getfield 20, 3) := by decide +kernel
theorem dX2_stretch_72 : decode cX2_stretch 72 = .ok (.iload_n 2, 1) := by decide +kernel
theorem dX2_stretch_73 : decode cX2_stretch 73 = .ok (.laload, 1) := by decide +kernel
theorem dX2_stretch_74 : decode cX2_stretch 74 = .ok (.invokestatic 222, 3) := by decide +kernel
theorem dX2_stretch_77 : decode cX2_stretch 77 = .ok (.invokevirtual 209, 3) := by decide +kernel
theorem dX2_stretch_80 : decode cX2_stretch 80 = .ok (.return_, 1) := by decide +kernel
set_option maxRecDepth 20000 in
theorem ggX2_ease_X1_lesser : GoodIn wsX2_ease wsX1_lesser := goodIn_r _ [15, 16, 17, 14, 18, 19] (by decide +kernel) (by decide +kernel)
set_option maxRecDepth 20000 in
theorem gX2_ease_X1_lesser : GoodIn wsX2_ease (va_wsS RX2 224 yX1_lesser wsX1_lesser) := goodIn_app (goodIn_of _ (by decide +kernel)) ggX2_ease_X1_lesser
set_option maxRecDepth 20000 in
theorem ggX2_ease_X2_changeLength : GoodIn wsX2_ease wsX2_changeLength := goodIn_r _ [24, 1, 25, 45, 46, 47, 48, 49, 50, 51, 52, 53, 54, 55, 56, 57, 58, 59] (by decide +kernel) (by decide +kernel)
set_option maxRecDepth 20000 in
theorem gX2_ease_X2_changeLength : GoodIn wsX2_ease (wsV RX2 192 RX2 yX2_changeLength wsX2_changeLength) := goodIn_app (goodIn_of _ (by decide +kernel)) ggX2_ease_X2_changeLength
set_option maxRecDepth 20000 in
theorem ggX2_ease_X1_shortLesser : GoodIn wsX2_ease wsX1_shortLesser := goodIn_r _ [28, 29, 30, 14, 31, 32] (by decide +kernel) (by decide +kernel)
set_option maxRecDepth 20000 in
theorem gX2_ease_X1_shortLesser : GoodIn wsX2_ease (va_wsS RX2 227 yX1_shortLesser wsX1_shortLesser) := goodIn_app (goodIn_of _ (by decide +kernel)) ggX2_ease_X1_shortLesser
set_option maxRecDepth 20000 in
theorem ggX2_ease_X2_changePull : GoodIn wsX2_ease wsX2_changePull := goodIn_r _ [36, 2, 25, 45, 46, 47, 48, 49, 50, 51, 52, 53, 54, 55, 56, 57, 58, 59] (by decide +kernel) (by decide +kernel)
set_option maxRecDepth 20000 in
theorem gX2_ease_X2_changePull : GoodIn wsX2_ease (wsV RX2 196 RX2 yX2_changePull wsX2_changePull) := goodIn_app (goodIn_of _ (by decide +kernel)) ggX2_ease_X2_changePull
set_option maxRecDepth 20000 in
theorem ggX2_ease_X2_changeKnots : GoodIn wsX2_ease wsX2_changeKnots := goodIn_r _ [40, 3, 25, 45, 46, 47, 48, 49, 50, 51, 52, 53, 54, 55, 56, 57, 58, 59] (by decide +kernel) (by decide +kernel)
set_option maxRecDepth 20000 in
theorem gX2_ease_X2_changeKnots : GoodIn wsX2_ease (wsV RX2 204 RX2 yX2_changeKnots wsX2_changeKnots) := goodIn_app (goodIn_of _ (by decide +kernel)) ggX2_ease_X2_changeKnots
set_option maxRecDepth 20000 in
theorem ggX2_ease_X2_changeTwist : GoodIn wsX2_ease wsX2_changeTwist := goodIn_r _ [44, 8, 25, 45, 46, 47, 48, 49, 50, 51, 52, 53, 54, 55, 56, 57, 58, 59] (by decide +kernel) (by decide +kernel)
set_option maxRecDepth 20000 in
theorem gX2_ease_X2_changeTwist : GoodIn wsX2_ease (wsV RX2 209 RX2 yX2_changeTwist wsX2_changeTwist) := goodIn_app (goodIn_of _ (by decide +kernel)) ggX2_ease_X2_changeTwist
theorem dX2_ease_0 : decode cX2_ease 0 = .ok (.aload_n 0, 1) := by decide +kernel
theorem dX2_ease_1 : decode cX2_ease 1 = .ok (.iload_n 1, 1) := by decide +kernel
theorem dX2_ease_2 : decode cX2_ease 2 = .ok (.aload_n 0, 1) := by decide +kernel
theorem dX2_ease_3 : decode cX2_ease 3 = .ok (.getfield 9, 3) := by decide +kernel
theorem dX2_ease_6 : decode cX2_ease 6 = .ok (.iload_n 1, 1) := by decide +kernel
theorem dX2_ease_7 : decode cX2_ease 7 = .ok (.laload, 1) := by decide +kernel
theorem dX2_ease_8 : decode cX2_ease 8 = .ok (.aload_n 0, 1) := by decide +kernel
theorem dX2_ease_9 : decode cX2_ease 9 = .ok (.getfield 9, 3) := by decide +kernel
theorem dX2_ease_12 : decode cX2_ease 12 = .ok (.iload_n 2, 1) := by decide +kernel
theorem dX2_ease_13 : decode cX2_ease 13 = .ok (.laload, 1) := by decide +kernel
theorem dX2_ease_14 : decode cX2_ease 14 = .ok (.invokestatic 224, 3) := by decide +kernel
theorem dX2_ease_17 : decode cX2_ease 17 = .ok (.invokevirtual 192, 3) := by decide +kernel
theorem dX2_ease_20 : decode cX2_ease 20 = .ok (.aload_n 0, 1) := by decide +kernel
theorem dX2_ease_21 : decode cX2_ease 21 = .ok (.iload_n 1, 1) := by decide +kernel
theorem dX2_ease_22 : decode cX2_ease 22 = .ok (.aload_n 0, 1) := by decide +kernel
theorem dX2_ease_23 : decode cX2_ease 23 = .ok (.getfield 13, 3) := by decide +kernel
theorem dX2_ease_26 : decode cX2_ease 26 = .ok (.iload_n 1, 1) := by decide +kernel
theorem dX2_ease_27 : decode cX2_ease 27 = .ok (.iaload, 1) := by decide +kernel
theorem dX2_ease_28 : decode cX2_ease 28 = .ok (.aload_n 0, 1) := by decide +kernel
theorem dX2_ease_29 : decode cX2_ease 29 = .ok (.getfield 13, 3) := by decide +kernel
theorem dX2_ease_32 : decode cX2_ease 32 = .ok (.iload_n 2, 1) := by decide +kernel
theorem dX2_ease_33 : decode cX2_ease 33 = .ok (.iaload, 1) := by decide +kernel
theorem dX2_ease_34 : decode cX2_ease 34 = .ok (.invokestatic 227, 3) := by decide +kernel
theorem dX2_ease_37 : decode cX2_ease 37 = .ok (.invokevirtual 196, 3) := by decide +kernel
theorem dX2_ease_40 : decode cX2_ease 40 = .ok (.aload_n 0, 1) := by decide +kernel
theorem dX2_ease_41 : decode cX2_ease 41 = .ok (.iload_n 1, 1) := by decide +kernel
theorem dX2_ease_42 : decode cX2_ease 42 = .ok (.aload_n 0, 1) := by decide +kernel
theorem dX2_ease_43 : decode cX2_ease 43 = .ok (.getfield 17, 3) := by decide +kernel
theorem dX2_ease_46 : decode cX2_ease 46 = .ok (.iload_n 1, 1) := by decide +kernel
theorem dX2_ease_47 : decode cX2_ease 47 = .ok (.iaload, 1) := by decide +kernel
theorem dX2_ease_48 : decode cX2_ease 48 = .ok (.aload_n 0, 1) := by decide +kernel
theorem dX2_ease_49 : decode cX2_ease 49 = .ok (.getfield 17, 3) := by decide +kernel
theorem dX2_ease_52 : decode cX2_ease 52 = .ok (.iload_n 2, 1) := by decide +kernel
theorem dX2_ease_53 : decode cX2_ease 53 = .ok (.iaload, 1) := by decide +kernel
theorem dX2_ease_54 : decode cX2_ease 54 = .ok (.invokestatic 230, 3) := by decide +kernel
theorem dX2_ease_57 : decode cX2_ease 57 = .ok (.invokevirtual 204, 3) := by decide +kernel
theorem dX2_ease_60 : decode cX2_ease 60 = .ok (.aload_n 0, 1) := by decide +kernel
theorem dX2_ease_61 : decode cX2_ease 61 = .ok (.iload_n 1, 1) := by decide +kernel
theorem dX2_ease_62 : decode cX2_ease 62 = .ok (.aload_n 0, 1) := by decide +kernel
theorem dX2_ease_63 : decode cX2_ease 63 = .ok (.getfield 20, 3) := by decide +kernel
theorem dX2_ease_66 : decode cX2_ease 66 = .ok (.iload_n 1, 1) := by decide +kernel
theorem dX2_ease_67 : decode cX2_ease 67 = .ok (.laload, 1) := by decide +kernel
theorem dX2_ease_68 : decode cX2_ease 68 = .ok (.aload_n 0, 1) := by decide +kernel
theorem dX2_ease_69 : decode cX2_ease 69 = .ok (.getfield 20, 3) := by decide +kernel
theorem dX2_ease_72 : decode cX2_ease 72 = .ok (.iload_n 2, 1) := by decide +kernel
theorem dX2_ease_73 : decode cX2_ease 73 = .ok (.laload, 1) := by decide +kernel
theorem dX2_ease_74 : decode cX2_ease 74 = .ok (.invokestatic 233, 3) := by decide +kernel
theorem dX2_ease_77 : decode cX2_ease 77 = .ok (.invokevirtual 209, 3) := by decide +kernel
theorem dX2_ease_80 : decode cX2_ease 80 = .ok (.return_, 1) := by decide +kernel
set_option maxRecDepth 20000 in
theorem ggX2_letToWhole_X1_amount : GoodIn wsX2_letToWhole wsX1_amount := goodIn_r _ [6, 7] (by decide +kernel) (by decide +kernel)
set_option maxRecDepth 20000 in
theorem gX2_letToWhole_X1_amount : GoodIn wsX2_letToWhole (va_wsS RX2 127 yX1_amount wsX1_amount) := goodIn_app (goodIn_of _ (by decide +kernel)) ggX2_letToWhole_X1_amount
set_option maxRecDepth 20000 in
theorem ggX2_letToWhole_X1_shortAmount : GoodIn wsX2_letToWhole wsX1_shortAmount := goodIn_r _ [10, 11] (by decide +kernel) (by decide +kernel)
set_option maxRecDepth 20000 in
theorem gX2_letToWhole_X1_shortAmount : GoodIn wsX2_letToWhole (va_wsS RX2 135 yX1_shortAmount wsX1_shortAmount) := goodIn_app (goodIn_of _ (by decide +kernel)) ggX2_letToWhole_X1_shortAmount
set_option maxRecDepth 20000 in
theorem ggX2_letToWhole_X1_wholeAbove : GoodIn wsX2_letToWhole wsX1_wholeAbove := goodIn_r _ [14, 15, 16, 5, 17, 18, 19, 20, 21, 22, 23] (by decide +kernel) (by decide +kernel)
set_option maxRecDepth 20000 in
theorem gX2_letToWhole_X1_wholeAbove : GoodIn wsX2_letToWhole (va_wsS RX2 235 yX1_wholeAbove wsX1_wholeAbove) := goodIn_app (goodIn_of _ (by decide +kernel)) ggX2_letToWhole_X1_wholeAbove
set_option maxRecDepth 20000 in
theorem ggX2_letToWhole_X1_wholeBelow : GoodIn wsX2_letToWhole wsX1_wholeBelow := goodIn_r _ [17, 18, 19, 5, 20] (by decide +kernel) (by decide +kernel)
set_option maxRecDepth 20000 in
theorem gX2_letToWhole_X1_wholeBelow : GoodIn wsX2_letToWhole (va_wsS RX2 239 yX1_wholeBelow wsX1_wholeBelow) := goodIn_app (goodIn_of _ (by decide +kernel)) ggX2_letToWhole_X1_wholeBelow
set_option maxRecDepth 20000 in
theorem ggX2_letToWhole_X2_changeAmounts : GoodIn wsX2_letToWhole wsX2_changeAmounts := goodIn_r _ [29, 1, 2, 30, 31, 5, 32, 33, 34, 35, 36, 28, 37, 38, 39, 40, 41, 42, 43, 44, 45, 46, 47, 48, 49, 50, 51, 52, 53, 54, 55, 56, 57, 58, 59, 60, 61] (by decide +kernel) (by decide +kernel)
set_option maxRecDepth 20000 in
theorem gX2_letToWhole_X2_changeAmounts : GoodIn wsX2_letToWhole (wsV RX2 242 RX2 yX2_changeAmounts wsX2_changeAmounts) := goodIn_app (goodIn_of _ (by decide +kernel)) ggX2_letToWhole_X2_changeAmounts
theorem dX2_letToWhole_0 : decode cX2_letToWhole 0 = .ok (.aload_n 0, 1) := by decide +kernel
theorem dX2_letToWhole_1 : decode cX2_letToWhole 1 = .ok (.getfield 9, 3) := by decide +kernel
theorem dX2_letToWhole_4 : decode cX2_letToWhole 4 = .ok (.iload_n 1, 1) := by decide +kernel
theorem dX2_letToWhole_5 : decode cX2_letToWhole 5 = .ok (.laload, 1) := by decide +kernel
theorem dX2_letToWhole_6 : decode cX2_letToWhole 6 = .ok (.invokestatic 127, 3) := by decide +kernel
theorem dX2_letToWhole_9 : decode cX2_letToWhole 9 = .ok (.lstore 4, 2) := by decide +kernel
theorem dX2_letToWhole_11 : decode cX2_letToWhole 11 = .ok (.aload_n 0, 1) := by decide +kernel
theorem dX2_letToWhole_12 : decode cX2_letToWhole 12 = .ok (.getfield 13, 3) := by decide +kernel
theorem dX2_letToWhole_15 : decode cX2_letToWhole 15 = .ok (.iload_n 1, 1) := by decide +kernel
theorem dX2_letToWhole_16 : decode cX2_letToWhole 16 = .ok (.iaload, 1) := by decide +kernel
theorem dX2_letToWhole_17 : decode cX2_letToWhole 17 = .ok (.invokestatic 135, 3) := by decide +kernel
theorem dX2_letToWhole_20 : decode cX2_letToWhole 20 = .ok (.i2l, 1) := by decide +kernel
theorem dX2_letToWhole_21 : decode cX2_letToWhole 21 = .ok (.lstore 6, 2) := by decide +kernel
theorem dX2_letToWhole_23 : decode cX2_letToWhole 23 = .ok (.aload_n 0, 1) := by decide +kernel
theorem dX2_letToWhole_24 : decode cX2_letToWhole 24 = .ok (.iload_n 1, 1) := by decide +kernel
theorem dX2_letToWhole_25 : decode cX2_letToWhole 25 = .ok (.iload_n 2, 1) := by decide +kernel
theorem dX2_letToWhole_26 : decode cX2_letToWhole 26 = .ok (.ifCond .eq 16, 3) := by decide +kernel
theorem dX2_letToWhole_29 : decode cX2_letToWhole 29 = .ok (.lload 4, 2) := by decide +kernel
theorem dX2_letToWhole_31 : decode cX2_letToWhole 31 = .ok (.bipush 52, 2) := by decide +kernel
theorem dX2_letToWhole_33 : decode cX2_letToWhole 33 = .ok (.sipush 1023, 3) := by decide +kernel
theorem dX2_letToWhole_36 : decode cX2_letToWhole 36 = .ok (.invokestatic 235, 3) := by decide +kernel
theorem dX2_letToWhole_39 : decode cX2_letToWhole 39 = .ok (.goto 13, 3) := by decide +kernel
theorem dX2_letToWhole_42 : decode cX2_letToWhole 42 = .ok (.lload 4, 2) := by decide +kernel
theorem dX2_letToWhole_44 : decode cX2_letToWhole 44 = .ok (.bipush 52, 2) := by decide +kernel
theorem dX2_letToWhole_46 : decode cX2_letToWhole 46 = .ok (.sipush 1023, 3) := by decide +kernel
theorem dX2_letToWhole_49 : decode cX2_letToWhole 49 = .ok (.invokestatic 239, 3) := by decide +kernel
theorem dX2_letToWhole_52 : decode cX2_letToWhole 52 = .ok (.iload_n 3, 1) := by decide +kernel
theorem dX2_letToWhole_53 : decode cX2_letToWhole 53 = .ok (.ifCond .eq 15, 3) := by decide +kernel
theorem dX2_letToWhole_56 : decode cX2_letToWhole 56 = .ok (.lload 6, 2) := by decide +kernel
theorem dX2_letToWhole_58 : decode cX2_letToWhole 58 = .ok (.bipush 23, 2) := by decide +kernel
theorem dX2_letToWhole_60 : decode cX2_letToWhole 60 = .ok (.bipush 127, 2) := by decide +kernel
theorem dX2_letToWhole_62 : decode cX2_letToWhole 62 = .ok (.invokestatic 235, 3) := by decide +kernel
theorem dX2_letToWhole_65 : decode cX2_letToWhole 65 = .ok (.goto 12, 3) := by decide +kernel
theorem dX2_letToWhole_68 : decode cX2_letToWhole 68 = .ok (.lload 6, 2) := by decide +kernel
theorem dX2_letToWhole_70 : decode cX2_letToWhole 70 = .ok (.bipush 23, 2) := by decide +kernel
theorem dX2_letToWhole_72 : decode cX2_letToWhole 72 = .ok (.bipush 127, 2) := by decide +kernel
theorem dX2_letToWhole_74 : decode cX2_letToWhole 74 = .ok (.invokestatic 239, 3) := by decide +kernel
theorem dX2_letToWhole_77 : decode cX2_letToWhole 77 = .ok (.invokevirtual 242, 3) := by decide +kernel
theorem dX2_letToWhole_80 : decode cX2_letToWhole 80 = .ok (.return_, 1) := by decide +kernel
set_option maxRecDepth 20000 in
theorem ggX2_letNear_X1_amount : GoodIn wsX2_letNear wsX1_amount := goodIn_r _ [6, 7] (by decide +kernel) (by decide +kernel)
set_option maxRecDepth 20000 in
theorem gX2_letNear_X1_amount : GoodIn wsX2_letNear (va_wsS RX2 127 yX1_amount wsX1_amount) := goodIn_app (goodIn_of _ (by decide +kernel)) ggX2_letNear_X1_amount
set_option maxRecDepth 20000 in
theorem ggX2_letNear_X1_wholeNear : GoodIn wsX2_letNear wsX1_wholeNear := goodIn_r _ [10, 11, 12, 5, 13, 14, 15, 16, 17, 18, 19] (by decide +kernel) (by decide +kernel)
set_option maxRecDepth 20000 in
theorem gX2_letNear_X1_wholeNear : GoodIn wsX2_letNear (va_wsS RX2 246 yX1_wholeNear wsX1_wholeNear) := goodIn_app (goodIn_of _ (by decide +kernel)) ggX2_letNear_X1_wholeNear
set_option maxRecDepth 20000 in
theorem ggX2_letNear_X1_shortAmount : GoodIn wsX2_letNear wsX1_shortAmount := goodIn_r _ [22, 23] (by decide +kernel) (by decide +kernel)
set_option maxRecDepth 20000 in
theorem gX2_letNear_X1_shortAmount : GoodIn wsX2_letNear (va_wsS RX2 135 yX1_shortAmount wsX1_shortAmount) := goodIn_app (goodIn_of _ (by decide +kernel)) ggX2_letNear_X1_shortAmount
set_option maxRecDepth 20000 in
theorem ggX2_letNear_X2_changeAmounts : GoodIn wsX2_letNear wsX2_changeAmounts := goodIn_r _ [28, 1, 2, 29, 30, 5, 31, 32, 33, 34, 35, 27, 36, 37, 38, 39, 40, 41, 42, 43, 44, 45, 46, 47, 48, 49, 50, 51, 52, 53, 54, 55, 56, 57, 58, 59, 60] (by decide +kernel) (by decide +kernel)
set_option maxRecDepth 20000 in
theorem gX2_letNear_X2_changeAmounts : GoodIn wsX2_letNear (wsV RX2 242 RX2 yX2_changeAmounts wsX2_changeAmounts) := goodIn_app (goodIn_of _ (by decide +kernel)) ggX2_letNear_X2_changeAmounts
theorem dX2_letNear_0 : decode cX2_letNear 0 = .ok (.aload_n 0, 1) := by decide +kernel
theorem dX2_letNear_1 : decode cX2_letNear 1 = .ok (.iload_n 1, 1) := by decide +kernel
theorem dX2_letNear_2 : decode cX2_letNear 2 = .ok (.aload_n 0, 1) := by decide +kernel
theorem dX2_letNear_3 : decode cX2_letNear 3 = .ok (.getfield 9, 3) := by decide +kernel
theorem dX2_letNear_6 : decode cX2_letNear 6 = .ok (.iload_n 1, 1) := by decide +kernel
theorem dX2_letNear_7 : decode cX2_letNear 7 = .ok (.laload, 1) := by decide +kernel
theorem dX2_letNear_8 : decode cX2_letNear 8 = .ok (.invokestatic 127, 3) := by decide +kernel
theorem dX2_letNear_11 : decode cX2_letNear 11 = .ok (.bipush 52, 2) := by decide +kernel
theorem dX2_letNear_13 : decode cX2_letNear 13 = .ok (.sipush 1023, 3) := by decide +kernel
theorem dX2_letNear_16 : decode cX2_letNear 16 = .ok (.invokestatic 246, 3) := by decide +kernel
theorem dX2_letNear_19 : decode cX2_letNear 19 = .ok (.aload_n 0, 1) := by decide +kernel
theorem dX2_letNear_20 : decode cX2_letNear 20 = .ok (.getfield 13, 3) := by decide +kernel
theorem dX2_letNear_23 : decode cX2_letNear 23 = .ok (.iload_n 1, 1) := by decide +kernel
theorem dX2_letNear_24 : decode cX2_letNear 24 = .ok (.iaload, 1) := by decide +kernel
theorem dX2_letNear_25 : decode cX2_letNear 25 = .ok (.invokestatic 135, 3) := by decide +kernel
theorem dX2_letNear_28 : decode cX2_letNear 28 = .ok (.i2l, 1) := by decide +kernel
theorem dX2_letNear_29 : decode cX2_letNear 29 = .ok (.bipush 23, 2) := by decide +kernel
theorem dX2_letNear_31 : decode cX2_letNear 31 = .ok (.bipush 127, 2) := by decide +kernel
theorem dX2_letNear_33 : decode cX2_letNear 33 = .ok (.invokestatic 246, 3) := by decide +kernel
theorem dX2_letNear_36 : decode cX2_letNear 36 = .ok (.invokevirtual 242, 3) := by decide +kernel
theorem dX2_letNear_39 : decode cX2_letNear 39 = .ok (.return_, 1) := by decide +kernel
set_option maxRecDepth 20000 in
theorem ggX2_lean_X1_amount : GoodIn wsX2_lean wsX1_amount := goodIn_r _ [10, 11] (by decide +kernel) (by decide +kernel)
set_option maxRecDepth 20000 in
theorem gX2_lean_X1_amount : GoodIn wsX2_lean (va_wsS RX2 127 yX1_amount wsX1_amount) := goodIn_app (goodIn_of _ (by decide +kernel)) ggX2_lean_X1_amount
set_option maxRecDepth 20000 in
theorem ggX2_lean_X1_withSign : GoodIn wsX2_lean wsX1_withSign := goodIn_r _ [14, 15] (by decide +kernel) (by decide +kernel)
set_option maxRecDepth 20000 in
theorem gX2_lean_X1_withSign : GoodIn wsX2_lean (va_wsS RX2 251 yX1_withSign wsX1_withSign) := goodIn_app (goodIn_of _ (by decide +kernel)) ggX2_lean_X1_withSign
set_option maxRecDepth 20000 in
theorem ggX2_lean_X1_shortAmount : GoodIn wsX2_lean wsX1_shortAmount := goodIn_r _ [18, 19] (by decide +kernel) (by decide +kernel)
set_option maxRecDepth 20000 in
theorem gX2_lean_X1_shortAmount : GoodIn wsX2_lean (va_wsS RX2 135 yX1_shortAmount wsX1_shortAmount) := goodIn_app (goodIn_of _ (by decide +kernel)) ggX2_lean_X1_shortAmount
set_option maxRecDepth 20000 in
theorem ggX2_lean_X1_shortWithSign : GoodIn wsX2_lean wsX1_shortWithSign := goodIn_r _ [22, 23] (by decide +kernel) (by decide +kernel)
set_option maxRecDepth 20000 in
theorem gX2_lean_X1_shortWithSign : GoodIn wsX2_lean (va_wsS RX2 255 yX1_shortWithSign wsX1_shortWithSign) := goodIn_app (goodIn_of _ (by decide +kernel)) ggX2_lean_X1_shortWithSign
theorem dX2_lean_0 : decode cX2_lean 0 = .ok (.aload_n 0, 1) := by decide +kernel
theorem dX2_lean_1 : decode cX2_lean 1 = .ok (.getfield 9, 3) := by decide +kernel
theorem dX2_lean_4 : decode cX2_lean 4 = .ok (.iload_n 1, 1) := by decide +kernel
theorem dX2_lean_5 : decode cX2_lean 5 = .ok (.laload, 1) := by decide +kernel
theorem dX2_lean_6 : decode cX2_lean 6 = .ok (.invokestatic 127, 3) := by decide +kernel
theorem dX2_lean_9 : decode cX2_lean 9 = .ok (.lconst 0, 1) := by decide +kernel
theorem dX2_lean_10 : decode cX2_lean 10 = .ok (.lcmp, 1) := by decide +kernel
theorem dX2_lean_11 : decode cX2_lean 11 = .ok (.ifCond .ne 16, 3) := by decide +kernel
theorem dX2_lean_14 : decode cX2_lean 14 = .ok (.aload_n 0, 1) := by decide +kernel
theorem dX2_lean_15 : decode cX2_lean 15 = .ok (.aload_n 0, 1) := by decide +kernel
theorem dX2_lean_16 : decode cX2_lean 16 = .ok (.getfield 9, 3) := by decide +kernel
theorem dX2_lean_19 : decode cX2_lean 19 = .ok (.iload_n 1, 1) := by decide +kernel
theorem dX2_lean_20 : decode cX2_lean 20 = .ok (.laload, 1) := by decide +kernel
theorem dX2_lean_21 : decode cX2_lean 21 = .ok (.putfield 33, 3) := by decide +kernel
theorem dX2_lean_24 : decode cX2_lean 24 = .ok (.goto 19, 3) := by decide +kernel
theorem dX2_lean_27 : decode cX2_lean 27 = .ok (.aload_n 0, 1) := by decide +kernel
theorem dX2_lean_28 : decode cX2_lean 28 = .ok (.ldc2_w 249, 3) := by decide +kernel
theorem dX2_lean_31 : decode cX2_lean 31 = .ok (.aload_n 0, 1) := by decide +kernel
theorem dX2_lean_32 : decode cX2_lean 32 = .ok (.getfield 9, 3) := by decide +kernel
theorem dX2_lean_35 : decode cX2_lean 35 = .ok (.iload_n 1, 1) := by decide +kernel
theorem dX2_lean_36 : decode cX2_lean 36 = .ok (.laload, 1) := by decide +kernel
theorem dX2_lean_37 : decode cX2_lean 37 = .ok (.invokestatic 251, 3) := by decide +kernel
theorem dX2_lean_40 : decode cX2_lean 40 = .ok (.putfield 33, 3) := by decide +kernel
theorem dX2_lean_43 : decode cX2_lean 43 = .ok (.aload_n 0, 1) := by decide +kernel
theorem dX2_lean_44 : decode cX2_lean 44 = .ok (.getfield 13, 3) := by decide +kernel
theorem dX2_lean_47 : decode cX2_lean 47 = .ok (.iload_n 1, 1) := by decide +kernel
theorem dX2_lean_48 : decode cX2_lean 48 = .ok (.iaload, 1) := by decide +kernel
theorem dX2_lean_49 : decode cX2_lean 49 = .ok (.invokestatic 135, 3) := by decide +kernel
theorem dX2_lean_52 : decode cX2_lean 52 = .ok (.ifCond .ne 16, 3) := by decide +kernel
theorem dX2_lean_55 : decode cX2_lean 55 = .ok (.aload_n 0, 1) := by decide +kernel
theorem dX2_lean_56 : decode cX2_lean 56 = .ok (.aload_n 0, 1) := by decide +kernel
theorem dX2_lean_57 : decode cX2_lean 57 = .ok (.getfield 13, 3) := by decide +kernel
theorem dX2_lean_60 : decode cX2_lean 60 = .ok (.iload_n 1, 1) := by decide +kernel
theorem dX2_lean_61 : decode cX2_lean 61 = .ok (.iaload, 1) := by decide +kernel
theorem dX2_lean_62 : decode cX2_lean 62 = .ok (.putfield 37, 3) := by decide +kernel
theorem dX2_lean_65 : decode cX2_lean 65 = .ok (.goto 18, 3) := by decide +kernel
theorem dX2_lean_68 : decode cX2_lean 68 = .ok (.aload_n 0, 1) := by decide +kernel
theorem dX2_lean_69 : decode cX2_lean 69 = .ok (.ldc 254, 2) := by decide +kernel
theorem dX2_lean_71 : decode cX2_lean 71 = .ok (.aload_n 0, 1) := by decide +kernel
theorem dX2_lean_72 : decode cX2_lean 72 = .ok (.getfield 13, 3) := by decide +kernel
theorem dX2_lean_75 : decode cX2_lean 75 = .ok (.iload_n 1, 1) := by decide +kernel
theorem dX2_lean_76 : decode cX2_lean 76 = .ok (.iaload, 1) := by decide +kernel
theorem dX2_lean_77 : decode cX2_lean 77 = .ok (.invokestatic 255, 3) := by decide +kernel
theorem dX2_lean_80 : decode cX2_lean 80 = .ok (.putfield 37, 3) := by decide +kernel
theorem dX2_lean_83 : decode cX2_lean 83 = .ok (.return_, 1) := by decide +kernel
set_option maxRecDepth 20000 in
theorem ggX2_mirror_X1_amount : GoodIn wsX2_mirror wsX1_amount := goodIn_r _ [6, 7] (by decide +kernel) (by decide +kernel)
set_option maxRecDepth 20000 in
theorem gX2_mirror_X1_amount : GoodIn wsX2_mirror (va_wsS RX2 127 yX1_amount wsX1_amount) := goodIn_app (goodIn_of _ (by decide +kernel)) ggX2_mirror_X1_amount
set_option maxRecDepth 20000 in
theorem ggX2_mirror_X1_withSign : GoodIn wsX2_mirror wsX1_withSign := goodIn_r _ [10, 11] (by decide +kernel) (by decide +kernel)
set_option maxRecDepth 20000 in
theorem gX2_mirror_X1_withSign : GoodIn wsX2_mirror (va_wsS RX2 251 yX1_withSign wsX1_withSign) := goodIn_app (goodIn_of _ (by decide +kernel)) ggX2_mirror_X1_withSign
set_option maxRecDepth 20000 in
theorem ggX2_mirror_X2_changeLength : GoodIn wsX2_mirror wsX2_changeLength := goodIn_r _ [16, 1, 17, 30, 31, 32, 33, 34, 35, 36, 37, 38, 39, 40, 41, 42, 43, 44] (by decide +kernel) (by decide +kernel)
set_option maxRecDepth 20000 in
theorem gX2_mirror_X2_changeLength : GoodIn wsX2_mirror (wsV RX2 192 RX2 yX2_changeLength wsX2_changeLength) := goodIn_app (goodIn_of _ (by decide +kernel)) ggX2_mirror_X2_changeLength
set_option maxRecDepth 20000 in
theorem ggX2_mirror_X1_shortAmount : GoodIn wsX2_mirror wsX1_shortAmount := goodIn_r _ [20, 21] (by decide +kernel) (by decide +kernel)
set_option maxRecDepth 20000 in
theorem gX2_mirror_X1_shortAmount : GoodIn wsX2_mirror (va_wsS RX2 135 yX1_shortAmount wsX1_shortAmount) := goodIn_app (goodIn_of _ (by decide +kernel)) ggX2_mirror_X1_shortAmount
set_option maxRecDepth 20000 in
theorem ggX2_mirror_X1_shortWithSign : GoodIn wsX2_mirror wsX1_shortWithSign := goodIn_r _ [24, 25] (by decide +kernel) (by decide +kernel)
set_option maxRecDepth 20000 in
theorem gX2_mirror_X1_shortWithSign : GoodIn wsX2_mirror (va_wsS RX2 255 yX1_shortWithSign wsX1_shortWithSign) := goodIn_app (goodIn_of _ (by decide +kernel)) ggX2_mirror_X1_shortWithSign
set_option maxRecDepth 20000 in
theorem ggX2_mirror_X2_changePull : GoodIn wsX2_mirror wsX2_changePull := goodIn_r _ [29, 2, 17, 30, 31, 32, 33, 34, 35, 36, 37, 38, 39, 40, 41, 42, 43, 44] (by decide +kernel) (by decide +kernel)
set_option maxRecDepth 20000 in
theorem gX2_mirror_X2_changePull : GoodIn wsX2_mirror (wsV RX2 196 RX2 yX2_changePull wsX2_changePull) := goodIn_app (goodIn_of _ (by decide +kernel)) ggX2_mirror_X2_changePull
theorem dX2_mirror_0 : decode cX2_mirror 0 = .ok (.aload_n 0, 1) := by decide +kernel
theorem dX2_mirror_1 : decode cX2_mirror 1 = .ok (.iload_n 1, 1) := by decide +kernel
theorem dX2_mirror_2 : decode cX2_mirror 2 = .ok (.aload_n 0, 1) := by decide +kernel
theorem dX2_mirror_3 : decode cX2_mirror 3 = .ok (.getfield 9, 3) := by decide +kernel
theorem dX2_mirror_6 : decode cX2_mirror 6 = .ok (.iload_n 1, 1) := by decide +kernel
theorem dX2_mirror_7 : decode cX2_mirror 7 = .ok (.laload, 1) := by decide +kernel
theorem dX2_mirror_8 : decode cX2_mirror 8 = .ok (.invokestatic 127, 3) := by decide +kernel
theorem dX2_mirror_11 : decode cX2_mirror 11 = .ok (.aload_n 0, 1) := by decide +kernel
theorem dX2_mirror_12 : decode cX2_mirror 12 = .ok (.getfield 9, 3) := by decide +kernel
theorem dX2_mirror_15 : decode cX2_mirror 15 = .ok (.iload_n 2, 1) := by decide +kernel
theorem dX2_mirror_16 : decode cX2_mirror 16 = .ok (.laload, 1) := by decide +kernel
theorem dX2_mirror_17 : decode cX2_mirror 17 = .ok (.invokestatic 251, 3) := by decide +kernel
theorem dX2_mirror_20 : decode cX2_mirror 20 = .ok (.invokevirtual 192, 3) := by decide +kernel
theorem dX2_mirror_23 : decode cX2_mirror 23 = .ok (.aload_n 0, 1) := by decide +kernel
theorem dX2_mirror_24 : decode cX2_mirror 24 = .ok (.iload_n 1, 1) := by decide +kernel
theorem dX2_mirror_25 : decode cX2_mirror 25 = .ok (.aload_n 0, 1) := by decide +kernel
theorem dX2_mirror_26 : decode cX2_mirror 26 = .ok (.getfield 13, 3) := by decide +kernel
theorem dX2_mirror_29 : decode cX2_mirror 29 = .ok (.iload_n 1, 1) := by decide +kernel
theorem dX2_mirror_30 : decode cX2_mirror 30 = .ok (.iaload, 1) := by decide +kernel
theorem dX2_mirror_31 : decode cX2_mirror 31 = .ok (.invokestatic 135, 3) := by decide +kernel
theorem dX2_mirror_34 : decode cX2_mirror 34 = .ok (.aload_n 0, 1) := by decide +kernel
theorem dX2_mirror_35 : decode cX2_mirror 35 = .ok (.getfield 13, 3) := by decide +kernel
theorem dX2_mirror_38 : decode cX2_mirror 38 = .ok (.iload_n 2, 1) := by decide +kernel
theorem dX2_mirror_39 : decode cX2_mirror 39 = .ok (.iaload, 1) := by decide +kernel
theorem dX2_mirror_40 : decode cX2_mirror 40 = .ok (.invokestatic 255, 3) := by decide +kernel
theorem dX2_mirror_43 : decode cX2_mirror 43 = .ok (.invokevirtual 196, 3) := by decide +kernel
theorem dX2_mirror_46 : decode cX2_mirror 46 = .ok (.return_, 1) := by decide +kernel
set_option maxRecDepth 20000 in
theorem ggX2_hold_X1_greater : GoodIn wsX2_hold wsX1_greater := goodIn_r _ [7, 8, 9, 6, 10, 11] (by decide +kernel) (by decide +kernel)
set_option maxRecDepth 20000 in
theorem gX2_hold_X1_greater : GoodIn wsX2_hold (va_wsS RX2 212 yX1_greater wsX1_greater) := goodIn_app (goodIn_of _ (by decide +kernel)) ggX2_hold_X1_greater
set_option maxRecDepth 20000 in
theorem ggX2_hold_X1_lesser : GoodIn wsX2_hold wsX1_lesser := goodIn_r _ [14, 8, 9, 6, 10, 11] (by decide +kernel) (by decide +kernel)
set_option maxRecDepth 20000 in
theorem gX2_hold_X1_lesser : GoodIn wsX2_hold (va_wsS RX2 224 yX1_lesser wsX1_lesser) := goodIn_app (goodIn_of _ (by decide +kernel)) ggX2_hold_X1_lesser
set_option maxRecDepth 20000 in
theorem ggX2_hold_X2_changeLength : GoodIn wsX2_hold wsX2_changeLength := goodIn_r _ [19, 1, 20, 21, 22, 23, 24, 25, 26, 27, 28, 29, 30, 31, 32, 33, 34, 35] (by decide +kernel) (by decide +kernel)
set_option maxRecDepth 20000 in
theorem gX2_hold_X2_changeLength : GoodIn wsX2_hold (wsV RX2 192 RX2 yX2_changeLength wsX2_changeLength) := goodIn_app (goodIn_of _ (by decide +kernel)) ggX2_hold_X2_changeLength
theorem dX2_hold_0 : decode cX2_hold 0 = .ok (.aload_n 0, 1) := by decide +kernel
theorem dX2_hold_1 : decode cX2_hold 1 = .ok (.iload_n 1, 1) := by decide +kernel
theorem dX2_hold_2 : decode cX2_hold 2 = .ok (.aload_n 0, 1) := by decide +kernel
theorem dX2_hold_3 : decode cX2_hold 3 = .ok (.getfield 9, 3) := by decide +kernel
theorem dX2_hold_6 : decode cX2_hold 6 = .ok (.iload_n 1, 1) := by decide +kernel
theorem dX2_hold_7 : decode cX2_hold 7 = .ok (.laload, 1) := by decide +kernel
theorem dX2_hold_8 : decode cX2_hold 8 = .ok (.aload_n 0, 1) := by decide +kernel
theorem dX2_hold_9 : decode cX2_hold 9 = .ok (.getfield 23, 3) := by decide +kernel
theorem dX2_hold_12 : decode cX2_hold 12 = .ok (.iload_n 1, 1) := by decide +kernel
theorem dX2_hold_13 : decode cX2_hold 13 = .ok (.laload, 1) := by decide +kernel
theorem dX2_hold_14 : decode cX2_hold 14 = .ok (.invokestatic 212, 3) := by decide +kernel
theorem dX2_hold_17 : decode cX2_hold 17 = .ok (.aload_n 0, 1) := by decide +kernel
theorem dX2_hold_18 : decode cX2_hold 18 = .ok (.getfield 26, 3) := by decide +kernel
theorem dX2_hold_21 : decode cX2_hold 21 = .ok (.iload_n 1, 1) := by decide +kernel
theorem dX2_hold_22 : decode cX2_hold 22 = .ok (.laload, 1) := by decide +kernel
theorem dX2_hold_23 : decode cX2_hold 23 = .ok (.invokestatic 224, 3) := by decide +kernel
theorem dX2_hold_26 : decode cX2_hold 26 = .ok (.invokevirtual 192, 3) := by decide +kernel
theorem dX2_hold_29 : decode cX2_hold 29 = .ok (.return_, 1) := by decide +kernel
set_option maxRecDepth 20000 in
theorem ggX2_placeStops_X1_lesser : GoodIn wsX2_placeStops wsX1_lesser := goodIn_r _ [7, 8, 9, 6, 10, 11] (by decide +kernel) (by decide +kernel)
set_option maxRecDepth 20000 in
theorem gX2_placeStops_X1_lesser : GoodIn wsX2_placeStops (va_wsS RX2 224 yX1_lesser wsX1_lesser) := goodIn_app (goodIn_of _ (by decide +kernel)) ggX2_placeStops_X1_lesser
set_option maxRecDepth 20000 in
theorem ggX2_placeStops_X1_greater : GoodIn wsX2_placeStops wsX1_greater := goodIn_r _ [14, 8, 9, 6, 10, 11] (by decide +kernel) (by decide +kernel)
set_option maxRecDepth 20000 in
theorem gX2_placeStops_X1_greater : GoodIn wsX2_placeStops (va_wsS RX2 212 yX1_greater wsX1_greater) := goodIn_app (goodIn_of _ (by decide +kernel)) ggX2_placeStops_X1_greater
theorem dX2_placeStops_0 : decode cX2_placeStops 0 = .ok (.aload_n 0, 1) := by decide +kernel
theorem dX2_placeStops_1 : decode cX2_placeStops 1 = .ok (.getfield 23, 3) := by decide +kernel
theorem dX2_placeStops_4 : decode cX2_placeStops 4 = .ok (.iload_n 1, 1) := by decide +kernel
theorem dX2_placeStops_5 : decode cX2_placeStops 5 = .ok (.aload_n 0, 1) := by decide +kernel
theorem dX2_placeStops_6 : decode cX2_placeStops 6 = .ok (.getfield 9, 3) := by decide +kernel
theorem dX2_placeStops_9 : decode cX2_placeStops 9 = .ok (.iload_n 1, 1) := by decide +kernel
theorem dX2_placeStops_10 : decode cX2_placeStops 10 = .ok (.laload, 1) := by decide +kernel
theorem dX2_placeStops_11 : decode cX2_placeStops 11 = .ok (.aload_n 0, 1) := by decide +kernel
theorem dX2_placeStops_12 : decode cX2_placeStops 12 = .ok (.getfield 9, 3) := by decide +kernel
theorem dX2_placeStops_15 : decode cX2_placeStops 15 = .ok (.iload_n 2, 1) := by decide +kernel
theorem dX2_placeStops_16 : decode cX2_placeStops 16 = .ok (.laload, 1) := by decide +kernel
theorem dX2_placeStops_17 : decode cX2_placeStops 17 = .ok (.invokestatic 224, 3) := by decide +kernel
theorem dX2_placeStops_20 : decode cX2_placeStops 20 = .ok (.lastore, 1) := by decide +kernel
theorem dX2_placeStops_21 : decode cX2_placeStops 21 = .ok (.aload_n 0, 1) := by decide +kernel
theorem dX2_placeStops_22 : decode cX2_placeStops 22 = .ok (.getfield 26, 3) := by decide +kernel
theorem dX2_placeStops_25 : decode cX2_placeStops 25 = .ok (.iload_n 1, 1) := by decide +kernel
theorem dX2_placeStops_26 : decode cX2_placeStops 26 = .ok (.aload_n 0, 1) := by decide +kernel
theorem dX2_placeStops_27 : decode cX2_placeStops 27 = .ok (.getfield 9, 3) := by decide +kernel
theorem dX2_placeStops_30 : decode cX2_placeStops 30 = .ok (.iload_n 1, 1) := by decide +kernel
theorem dX2_placeStops_31 : decode cX2_placeStops 31 = .ok (.laload, 1) := by decide +kernel
theorem dX2_placeStops_32 : decode cX2_placeStops 32 = .ok (.aload_n 0, 1) := by decide +kernel
theorem dX2_placeStops_33 : decode cX2_placeStops 33 = .ok (.getfield 9, 3) := by decide +kernel
theorem dX2_placeStops_36 : decode cX2_placeStops 36 = .ok (.iload_n 2, 1) := by decide +kernel
theorem dX2_placeStops_37 : decode cX2_placeStops 37 = .ok (.laload, 1) := by decide +kernel
theorem dX2_placeStops_38 : decode cX2_placeStops 38 = .ok (.invokestatic 212, 3) := by decide +kernel
theorem dX2_placeStops_41 : decode cX2_placeStops 41 = .ok (.lastore, 1) := by decide +kernel
theorem dX2_placeStops_42 : decode cX2_placeStops 42 = .ok (.return_, 1) := by decide +kernel
set_option maxRecDepth 20000 in
theorem ggX2_gather_X1_amount : GoodIn wsX2_gather wsX1_amount := goodIn_r _ [25, 26] (by decide +kernel) (by decide +kernel)
set_option maxRecDepth 20000 in
theorem gX2_gather_X1_amount : GoodIn wsX2_gather (va_wsS RX2 127 yX1_amount wsX1_amount) := goodIn_app (goodIn_of _ (by decide +kernel)) ggX2_gather_X1_amount
set_option maxRecDepth 20000 in
theorem ggX2_gather_X1_greater : GoodIn wsX2_gather wsX1_greater := goodIn_r _ [29, 30, 31, 24, 32, 26] (by decide +kernel) (by decide +kernel)
set_option maxRecDepth 20000 in
theorem gX2_gather_X1_greater : GoodIn wsX2_gather (va_wsS RX2 212 yX1_greater wsX1_greater) := goodIn_app (goodIn_of _ (by decide +kernel)) ggX2_gather_X1_greater
set_option maxRecDepth 20000 in
theorem ggX2_gather_X1_shortAmount : GoodIn wsX2_gather wsX1_shortAmount := goodIn_r _ [35, 36] (by decide +kernel) (by decide +kernel)
set_option maxRecDepth 20000 in
theorem gX2_gather_X1_shortAmount : GoodIn wsX2_gather (va_wsS RX2 135 yX1_shortAmount wsX1_shortAmount) := goodIn_app (goodIn_of _ (by decide +kernel)) ggX2_gather_X1_shortAmount
set_option maxRecDepth 20000 in
theorem ggX2_gather_X1_shortLesser : GoodIn wsX2_gather wsX1_shortLesser := goodIn_r _ [39, 40, 41, 24, 42, 36] (by decide +kernel) (by decide +kernel)
set_option maxRecDepth 20000 in
theorem gX2_gather_X1_shortLesser : GoodIn wsX2_gather (va_wsS RX2 227 yX1_shortLesser wsX1_shortLesser) := goodIn_app (goodIn_of _ (by decide +kernel)) ggX2_gather_X1_shortLesser
theorem dX2_gather_0 : decode cX2_gather 0 = .ok (.aload_n 0, 1) := by decide +kernel
theorem dX2_gather_1 : decode cX2_gather 1 = .ok (.aload_n 0, 1) := by decide +kernel
theorem dX2_gather_2 : decode cX2_gather 2 = .ok (.getfield 33, 3) := by decide +kernel
theorem dX2_gather_5 : decode cX2_gather 5 = .ok (.aload_n 0, 1) := by decide +kernel
theorem dX2_gather_6 : decode cX2_gather 6 = .ok (.getfield 9, 3) := by decide +kernel
theorem dX2_gather_9 : decode cX2_gather 9 = .ok (.iload_n 1, 1) := by decide +kernel
theorem dX2_gather_10 : decode cX2_gather 10 = .ok (.laload, 1) := by decide +kernel
theorem dX2_gather_11 : decode cX2_gather 11 = .ok (.invokestatic 127, 3) := by decide +kernel
theorem dX2_gather_14 : decode cX2_gather 14 = .ok (.invokestatic 212, 3) := by decide +kernel
theorem dX2_gather_17 : decode cX2_gather 17 = .ok (.putfield 33, 3) := by decide +kernel
theorem dX2_gather_20 : decode cX2_gather 20 = .ok (.aload_n 0, 1) := by decide +kernel
theorem dX2_gather_21 : decode cX2_gather 21 = .ok (.aload_n 0, 1) := by decide +kernel
theorem dX2_gather_22 : decode cX2_gather 22 = .ok (.getfield 37, 3) := by decide +kernel
theorem dX2_gather_25 : decode cX2_gather 25 = .ok (.aload_n 0, 1) := by decide +kernel
theorem dX2_gather_26 : decode cX2_gather 26 = .ok (.getfield 13, 3) := by decide +kernel
theorem dX2_gather_29 : decode cX2_gather 29 = .ok (.iload_n 1, 1) := by decide +kernel
theorem dX2_gather_30 : decode cX2_gather 30 = .ok (.iaload, 1) := by decide +kernel
theorem dX2_gather_31 : decode cX2_gather 31 = .ok (.invokestatic 135, 3) := by decide +kernel
theorem dX2_gather_34 : decode cX2_gather 34 = .ok (.invokestatic 227, 3) := by decide +kernel
theorem dX2_gather_37 : decode cX2_gather 37 = .ok (.putfield 37, 3) := by decide +kernel
theorem dX2_gather_40 : decode cX2_gather 40 = .ok (.aload_n 0, 1) := by decide +kernel
theorem dX2_gather_41 : decode cX2_gather 41 = .ok (.aload_n 0, 1) := by decide +kernel
theorem dX2_gather_42 : decode cX2_gather 42 = .ok (.getfield 41, 3) := by decide +kernel
theorem dX2_gather_45 : decode cX2_gather 45 = .ok (.aload_n 0, 1) := by decide +kernel
theorem dX2_gather_46 : decode cX2_gather 46 = .ok (.getfield 17, 3) := by decide +kernel
theorem dX2_gather_49 : decode cX2_gather 49 = .ok (.iload_n 1, 1) := by decide +kernel
theorem dX2_gather_50 : decode cX2_gather 50 = .ok (.iaload, 1) := by decide +kernel
theorem dX2_gather_51 : decode cX2_gather 51 = .ok (.invokestatic 199, 3) := by decide +kernel
theorem dX2_gather_54 : decode cX2_gather 54 = .ok (.invokestatic 219, 3) := by decide +kernel
theorem dX2_gather_57 : decode cX2_gather 57 = .ok (.putfield 41, 3) := by decide +kernel
theorem dX2_gather_60 : decode cX2_gather 60 = .ok (.aload_n 0, 1) := by decide +kernel
theorem dX2_gather_61 : decode cX2_gather 61 = .ok (.aload_n 0, 1) := by decide +kernel
theorem dX2_gather_62 : decode cX2_gather 62 = .ok (.getfield 44, 3) := by decide +kernel
theorem dX2_gather_65 : decode cX2_gather 65 = .ok (.aload_n 0, 1) := by decide +kernel
theorem dX2_gather_66 : decode cX2_gather 66 = .ok (.getfield 20, 3) := by decide +kernel
theorem dX2_gather_69 : decode cX2_gather 69 = .ok (.iload_n 1, 1) := by decide +kernel
theorem dX2_gather_70 : decode cX2_gather 70 = .ok (.laload, 1) := by decide +kernel
theorem dX2_gather_71 : decode cX2_gather 71 = .ok (.invokestatic 207, 3) := by decide +kernel
theorem dX2_gather_74 : decode cX2_gather 74 = .ok (.invokestatic 233, 3) := by decide +kernel
theorem dX2_gather_77 : decode cX2_gather 77 = .ok (.putfield 44, 3) := by decide +kernel
theorem dX2_gather_80 : decode cX2_gather 80 = .ok (.return_, 1) := by decide +kernel
set_option maxRecDepth 20000 in
theorem ggX2_trade_X2_changeLength : GoodIn wsX2_trade wsX2_changeLength := goodIn_r _ [11, 1, 12, 25, 26, 27, 28, 29, 30, 31, 32, 33, 34, 35, 36, 37, 38, 39] (by decide +kernel) (by decide +kernel)
set_option maxRecDepth 20000 in
theorem gX2_trade_X2_changeLength : GoodIn wsX2_trade (wsV RX2 192 RX2 yX2_changeLength wsX2_changeLength) := goodIn_app (goodIn_of _ (by decide +kernel)) ggX2_trade_X2_changeLength
set_option maxRecDepth 20000 in
theorem ggX2_trade_X2_changePull : GoodIn wsX2_trade wsX2_changePull := goodIn_r _ [16, 2, 12, 25, 26, 27, 28, 29, 30, 31, 32, 33, 34, 35, 36, 37, 38, 39] (by decide +kernel) (by decide +kernel)
set_option maxRecDepth 20000 in
theorem gX2_trade_X2_changePull : GoodIn wsX2_trade (wsV RX2 196 RX2 yX2_changePull wsX2_changePull) := goodIn_app (goodIn_of _ (by decide +kernel)) ggX2_trade_X2_changePull
set_option maxRecDepth 20000 in
theorem ggX2_trade_X2_changeKnots : GoodIn wsX2_trade wsX2_changeKnots := goodIn_r _ [20, 3, 12, 25, 26, 27, 28, 29, 30, 31, 32, 33, 34, 35, 36, 37, 38, 39] (by decide +kernel) (by decide +kernel)
set_option maxRecDepth 20000 in
theorem gX2_trade_X2_changeKnots : GoodIn wsX2_trade (wsV RX2 204 RX2 yX2_changeKnots wsX2_changeKnots) := goodIn_app (goodIn_of _ (by decide +kernel)) ggX2_trade_X2_changeKnots
set_option maxRecDepth 20000 in
theorem ggX2_trade_X2_changeTwist : GoodIn wsX2_trade wsX2_changeTwist := goodIn_r _ [24, 4, 12, 25, 26, 27, 28, 29, 30, 31, 32, 33, 34, 35, 36, 37, 38, 39] (by decide +kernel) (by decide +kernel)
set_option maxRecDepth 20000 in
theorem gX2_trade_X2_changeTwist : GoodIn wsX2_trade (wsV RX2 209 RX2 yX2_changeTwist wsX2_changeTwist) := goodIn_app (goodIn_of _ (by decide +kernel)) ggX2_trade_X2_changeTwist
theorem dX2_trade_0 : decode cX2_trade 0 = .ok (.aload_n 0, 1) := by decide +kernel
theorem dX2_trade_1 : decode cX2_trade 1 = .ok (.getfield 9, 3) := by decide +kernel
theorem dX2_trade_4 : decode cX2_trade 4 = .ok (.iload_n 1, 1) := by decide +kernel
theorem dX2_trade_5 : decode cX2_trade 5 = .ok (.laload, 1) := by decide +kernel
theorem dX2_trade_6 : decode cX2_trade 6 = .ok (.lstore_n 3, 1) := by decide +kernel
theorem dX2_trade_7 : decode cX2_trade 7 = .ok (.aload_n 0, 1) := by decide +kernel
theorem dX2_trade_8 : decode cX2_trade 8 = .ok (.getfield 13, 3) := by decide +kernel
theorem dX2_trade_11 : decode cX2_trade 11 = .ok (.iload_n 1, 1) := by decide +kernel
theorem dX2_trade_12 : decode cX2_trade 12 = .ok (.iaload, 1) := by decide +kernel
theorem dX2_trade_13 : decode cX2_trade 13 = .ok (.istore 5, 2) := by decide +kernel
theorem dX2_trade_15 : decode cX2_trade 15 = .ok (.aload_n 0, 1) := by decide +kernel
theorem dX2_trade_16 : decode cX2_trade 16 = .ok (.getfield 17, 3) := by decide +kernel
theorem dX2_trade_19 : decode cX2_trade 19 = .ok (.iload_n 1, 1) := by decide +kernel
theorem dX2_trade_20 : decode cX2_trade 20 = .ok (.iaload, 1) := by decide +kernel
theorem dX2_trade_21 : decode cX2_trade 21 = .ok (.istore 6, 2) := by decide +kernel
theorem dX2_trade_23 : decode cX2_trade 23 = .ok (.aload_n 0, 1) := by decide +kernel
theorem dX2_trade_24 : decode cX2_trade 24 = .ok (.getfield 20, 3) := by decide +kernel
theorem dX2_trade_27 : decode cX2_trade 27 = .ok (.iload_n 1, 1) := by decide +kernel
theorem dX2_trade_28 : decode cX2_trade 28 = .ok (.laload, 1) := by decide +kernel
theorem dX2_trade_29 : decode cX2_trade 29 = .ok (.lstore 7, 2) := by decide +kernel
theorem dX2_trade_31 : decode cX2_trade 31 = .ok (.aload_n 0, 1) := by decide +kernel
theorem dX2_trade_32 : decode cX2_trade 32 = .ok (.getfield 23, 3) := by decide +kernel
theorem dX2_trade_35 : decode cX2_trade 35 = .ok (.iload_n 1, 1) := by decide +kernel
theorem dX2_trade_36 : decode cX2_trade 36 = .ok (.laload, 1) := by decide +kernel
theorem dX2_trade_37 : decode cX2_trade 37 = .ok (.lstore 9, 2) := by decide +kernel
theorem dX2_trade_39 : decode cX2_trade 39 = .ok (.aload_n 0, 1) := by decide +kernel
theorem dX2_trade_40 : decode cX2_trade 40 = .ok (.getfield 26, 3) := by decide +kernel
theorem dX2_trade_43 : decode cX2_trade 43 = .ok (.iload_n 1, 1) := by decide +kernel
theorem dX2_trade_44 : decode cX2_trade 44 = .ok (.laload, 1) := by decide +kernel
theorem dX2_trade_45 : decode cX2_trade 45 = .ok (.lstore 11, 2) := by decide +kernel
theorem dX2_trade_47 : decode cX2_trade 47 = .ok (.aload_n 0, 1) := by decide +kernel
theorem dX2_trade_48 : decode cX2_trade 48 = .ok (.iload_n 1, 1) := by decide +kernel
theorem dX2_trade_49 : decode cX2_trade 49 = .ok (.aload_n 0, 1) := by decide +kernel
theorem dX2_trade_50 : decode cX2_trade 50 = .ok (.getfield 9, 3) := by decide +kernel
theorem dX2_trade_53 : decode cX2_trade 53 = .ok (.iload_n 2, 1) := by decide +kernel
theorem dX2_trade_54 : decode cX2_trade 54 = .ok (.laload, 1) := by decide +kernel
theorem dX2_trade_55 : decode cX2_trade 55 = .ok (.invokevirtual 192, 3) := by decide +kernel
theorem dX2_trade_58 : decode cX2_trade 58 = .ok (.aload_n 0, 1) := by decide +kernel
theorem dX2_trade_59 : decode cX2_trade 59 = .ok (.iload_n 1, 1) := by decide +kernel
theorem dX2_trade_60 : decode cX2_trade 60 = .ok (.aload_n 0, 1) := by decide +kernel
theorem dX2_trade_61 : decode cX2_trade 61 = .ok (.getfield 13, 3) := by decide +kernel
theorem dX2_trade_64 : decode cX2_trade 64 = .ok (.iload_n 2, 1) := by decide +kernel
theorem dX2_trade_65 : decode cX2_trade 65 = .ok (.iaload, 1) := by decide +kernel
theorem dX2_trade_66 : decode cX2_trade 66 = .ok (.invokevirtual 196, 3) := by decide +kernel
theorem dX2_trade_69 : decode cX2_trade 69 = .ok (.aload_n 0, 1) := by decide +kernel
theorem dX2_trade_70 : decode cX2_trade 70 = .ok (.iload_n 1, 1) := by decide +kernel
theorem dX2_trade_71 : decode cX2_trade 71 = .ok (.aload_n 0, 1) := by decide +kernel
theorem dX2_trade_72 : decode cX2_trade 72 = .ok (.getfield 17, 3) := by decide +kernel
theorem dX2_trade_75 : decode cX2_trade 75 = .ok (.iload_n 2, 1) := by decide +kernel
theorem dX2_trade_76 : decode cX2_trade 76 = .ok (.iaload, 1) := by decide +kernel
theorem dX2_trade_77 : decode cX2_trade 77 = .ok (.invokevirtual 204, 3) := by decide +kernel
theorem dX2_trade_80 : decode cX2_trade 80 = .ok (.aload_n 0, 1) := by decide +kernel
theorem dX2_trade_81 : decode cX2_trade 81 = .ok (.iload_n 1, 1) := by decide +kernel
theorem dX2_trade_82 : decode cX2_trade 82 = .ok (.aload_n 0, 1) := by decide +kernel
theorem dX2_trade_83 : decode cX2_trade 83 = .ok (.getfield 20, 3) := by decide +kernel
theorem dX2_trade_86 : decode cX2_trade 86 = .ok (.iload_n 2, 1) := by decide +kernel
theorem dX2_trade_87 : decode cX2_trade 87 = .ok (.laload, 1) := by decide +kernel
theorem dX2_trade_88 : decode cX2_trade 88 = .ok (.invokevirtual 209, 3) := by decide +kernel
theorem dX2_trade_91 : decode cX2_trade 91 = .ok (.aload_n 0, 1) := by decide +kernel
theorem dX2_trade_92 : decode cX2_trade 92 = .ok (.getfield 23, 3) := by decide +kernel
theorem dX2_trade_95 : decode cX2_trade 95 = .ok (.iload_n 1, 1) := by decide +kernel
theorem dX2_trade_96 : decode cX2_trade 96 = .ok (.aload_n 0, 1) := by decide +kernel
theorem dX2_trade_97 : decode cX2_trade 97 = .ok (.getfield 23, 3) := by decide +kernel
theorem dX2_trade_100 : decode cX2_trade 100 = .ok (.iload_n 2, 1) := by decide +kernel
theorem dX2_trade_101 : decode cX2_trade 101 = .ok (.laload, 1) := by decide +kernel
theorem dX2_trade_102 : decode cX2_trade 102 = .ok (.lastore, 1) := by decide +kernel
theorem dX2_trade_103 : decode cX2_trade 103 = .ok (.aload_n 0, 1) := by decide +kernel
theorem dX2_trade_104 : decode cX2_trade 104 = .ok (.getfield 26, 3) := by decide +kernel
theorem dX2_trade_107 : decode cX2_trade 107 = .ok (.iload_n 1, 1) := by decide +kernel
theorem dX2_trade_108 : decode cX2_trade 108 = .ok (.aload_n 0, 1) := by decide +kernel
theorem dX2_trade_109 : decode cX2_trade 109 = .ok (.getfield 26, 3) := by decide +kernel
theorem dX2_trade_112 : decode cX2_trade 112 = .ok (.iload_n 2, 1) := by decide +kernel
theorem dX2_trade_113 : decode cX2_trade 113 = .ok (.laload, 1) := by decide +kernel
theorem dX2_trade_114 : decode cX2_trade 114 = .ok (.lastore, 1) := by decide +kernel
theorem dX2_trade_115 : decode cX2_trade 115 = .ok (.aload_n 0, 1) := by decide +kernel
theorem dX2_trade_116 : decode cX2_trade 116 = .ok (.iload_n 2, 1) := by decide +kernel
theorem dX2_trade_117 : decode cX2_trade 117 = .ok (.lload_n 3, 1) := by decide +kernel
theorem dX2_trade_118 : decode cX2_trade 118 = .ok (.invokevirtual 192, 3) := by decide +kernel
theorem dX2_trade_121 : decode cX2_trade 121 = .ok (.aload_n 0, 1) := by decide +kernel
theorem dX2_trade_122 : decode cX2_trade 122 = .ok (.iload_n 2, 1) := by decide +kernel
theorem dX2_trade_123 : decode cX2_trade 123 = .ok (.iload 5, 2) := by decide +kernel
theorem dX2_trade_125 : decode cX2_trade 125 = .ok (.invokevirtual 196, 3) := by decide +kernel
theorem dX2_trade_128 : decode cX2_trade 128 = .ok (.aload_n 0, 1) := by decide +kernel
theorem dX2_trade_129 : decode cX2_trade 129 = .ok (.iload_n 2, 1) := by decide +kernel
theorem dX2_trade_130 : decode cX2_trade 130 = .ok (.iload 6, 2) := by decide +kernel
theorem dX2_trade_132 : decode cX2_trade 132 = .ok (.invokevirtual 204, 3) := by decide +kernel
theorem dX2_trade_135 : decode cX2_trade 135 = .ok (.aload_n 0, 1) := by decide +kernel
theorem dX2_trade_136 : decode cX2_trade 136 = .ok (.iload_n 2, 1) := by decide +kernel
theorem dX2_trade_137 : decode cX2_trade 137 = .ok (.lload 7, 2) := by decide +kernel
theorem dX2_trade_139 : decode cX2_trade 139 = .ok (.invokevirtual 209, 3) := by decide +kernel
theorem dX2_trade_142 : decode cX2_trade 142 = .ok (.aload_n 0, 1) := by decide +kernel
theorem dX2_trade_143 : decode cX2_trade 143 = .ok (.getfield 23, 3) := by decide +kernel
theorem dX2_trade_146 : decode cX2_trade 146 = .ok (.iload_n 2, 1) := by decide +kernel
theorem dX2_trade_147 : decode cX2_trade 147 = .ok (.lload 9, 2) := by decide +kernel
theorem dX2_trade_149 : decode cX2_trade 149 = .ok (.lastore, 1) := by decide +kernel
theorem dX2_trade_150 : decode cX2_trade 150 = .ok (.aload_n 0, 1) := by decide +kernel
theorem dX2_trade_151 : decode cX2_trade 151 = .ok (.getfield 26, 3) := by decide +kernel
theorem dX2_trade_154 : decode cX2_trade 154 = .ok (.iload_n 2, 1) := by decide +kernel
theorem dX2_trade_155 : decode cX2_trade 155 = .ok (.lload 11, 2) := by decide +kernel
theorem dX2_trade_157 : decode cX2_trade 157 = .ok (.lastore, 1) := by decide +kernel
theorem dX2_trade_158 : decode cX2_trade 158 = .ok (.return_, 1) := by decide +kernel
set_option maxRecDepth 20000 in
theorem ggX2_climb_X1_amount : GoodIn wsX2_climb wsX1_amount := goodIn_r _ [8, 9] (by decide +kernel) (by decide +kernel)
set_option maxRecDepth 20000 in
theorem gX2_climb_X1_amount : GoodIn wsX2_climb (va_wsS RX2 127 yX1_amount wsX1_amount) := goodIn_app (goodIn_of _ (by decide +kernel)) ggX2_climb_X1_amount
set_option maxRecDepth 20000 in
theorem ggX2_climb_X2_changeKnots : GoodIn wsX2_climb wsX2_changeKnots := goodIn_r _ [14, 2, 15, 24, 25, 26, 27, 28, 29, 30, 31, 32, 33, 34, 35, 36, 37, 38] (by decide +kernel) (by decide +kernel)
set_option maxRecDepth 20000 in
theorem gX2_climb_X2_changeKnots : GoodIn wsX2_climb (wsV RX2 204 RX2 yX2_changeKnots wsX2_changeKnots) := goodIn_app (goodIn_of _ (by decide +kernel)) ggX2_climb_X2_changeKnots
set_option maxRecDepth 20000 in
theorem ggX2_climb_X1_shortAmount : GoodIn wsX2_climb wsX1_shortAmount := goodIn_r _ [18, 19] (by decide +kernel) (by decide +kernel)
set_option maxRecDepth 20000 in
theorem gX2_climb_X1_shortAmount : GoodIn wsX2_climb (va_wsS RX2 135 yX1_shortAmount wsX1_shortAmount) := goodIn_app (goodIn_of _ (by decide +kernel)) ggX2_climb_X1_shortAmount
set_option maxRecDepth 20000 in
theorem ggX2_climb_X2_changeTwist : GoodIn wsX2_climb wsX2_changeTwist := goodIn_r _ [23, 4, 15, 24, 25, 26, 27, 28, 29, 30, 31, 32, 33, 34, 35, 36, 37, 38] (by decide +kernel) (by decide +kernel)
set_option maxRecDepth 20000 in
theorem gX2_climb_X2_changeTwist : GoodIn wsX2_climb (wsV RX2 209 RX2 yX2_changeTwist wsX2_changeTwist) := goodIn_app (goodIn_of _ (by decide +kernel)) ggX2_climb_X2_changeTwist
theorem dX2_climb_0 : decode cX2_climb 0 = .ok (.aload_n 0, 1) := by decide +kernel
theorem dX2_climb_1 : decode cX2_climb 1 = .ok (.getfield 9, 3) := by decide +kernel
theorem dX2_climb_4 : decode cX2_climb 4 = .ok (.iload_n 1, 1) := by decide +kernel
theorem dX2_climb_5 : decode cX2_climb 5 = .ok (.laload, 1) := by decide +kernel
theorem dX2_climb_6 : decode cX2_climb 6 = .ok (.invokestatic 127, 3) := by decide +kernel
theorem dX2_climb_9 : decode cX2_climb 9 = .ok (.lconst 0, 1) := by decide +kernel
theorem dX2_climb_10 : decode cX2_climb 10 = .ok (.lcmp, 1) := by decide +kernel
theorem dX2_climb_11 : decode cX2_climb 11 = .ok (.ifCond .eq 38, 3) := by decide +kernel
theorem dX2_climb_14 : decode cX2_climb 14 = .ok (.aload_n 0, 1) := by decide +kernel
theorem dX2_climb_15 : decode cX2_climb 15 = .ok (.iload_n 1, 1) := by decide +kernel
theorem dX2_climb_16 : decode cX2_climb 16 = .ok (.aload_n 0, 1) := by decide +kernel
theorem dX2_climb_17 : decode cX2_climb 17 = .ok (.getfield 9, 3) := by decide +kernel
theorem dX2_climb_20 : decode cX2_climb 20 = .ok (.iload_n 1, 1) := by decide +kernel
theorem dX2_climb_21 : decode cX2_climb 21 = .ok (.laload, 1) := by decide +kernel
theorem dX2_climb_22 : decode cX2_climb 22 = .ok (.lconst 0, 1) := by decide +kernel
theorem dX2_climb_23 : decode cX2_climb 23 = .ok (.lcmp, 1) := by decide +kernel
theorem dX2_climb_24 : decode cX2_climb 24 = .ok (.ifCond .ge 14, 3) := by decide +kernel
theorem dX2_climb_27 : decode cX2_climb 27 = .ok (.aload_n 0, 1) := by decide +kernel
theorem dX2_climb_28 : decode cX2_climb 28 = .ok (.getfield 17, 3) := by decide +kernel
theorem dX2_climb_31 : decode cX2_climb 31 = .ok (.iload_n 1, 1) := by decide +kernel
theorem dX2_climb_32 : decode cX2_climb 32 = .ok (.iaload, 1) := by decide +kernel
theorem dX2_climb_33 : decode cX2_climb 33 = .ok (.iconst 1, 1) := by decide +kernel
theorem dX2_climb_34 : decode cX2_climb 34 = .ok (.isub, 1) := by decide +kernel
theorem dX2_climb_35 : decode cX2_climb 35 = .ok (.goto 11, 3) := by decide +kernel
theorem dX2_climb_38 : decode cX2_climb 38 = .ok (.aload_n 0, 1) := by decide +kernel
theorem dX2_climb_39 : decode cX2_climb 39 = .ok (.getfield 17, 3) := by decide +kernel
theorem dX2_climb_42 : decode cX2_climb 42 = .ok (.iload_n 1, 1) := by decide +kernel
theorem dX2_climb_43 : decode cX2_climb 43 = .ok (.iaload, 1) := by decide +kernel
theorem dX2_climb_44 : decode cX2_climb 44 = .ok (.iconst 1, 1) := by decide +kernel
theorem dX2_climb_45 : decode cX2_climb 45 = .ok (.iadd, 1) := by decide +kernel
theorem dX2_climb_46 : decode cX2_climb 46 = .ok (.invokevirtual 204, 3) := by decide +kernel
theorem dX2_climb_49 : decode cX2_climb 49 = .ok (.aload_n 0, 1) := by decide +kernel
theorem dX2_climb_50 : decode cX2_climb 50 = .ok (.getfield 13, 3) := by decide +kernel
theorem dX2_climb_53 : decode cX2_climb 53 = .ok (.iload_n 1, 1) := by decide +kernel
theorem dX2_climb_54 : decode cX2_climb 54 = .ok (.iaload, 1) := by decide +kernel
theorem dX2_climb_55 : decode cX2_climb 55 = .ok (.invokestatic 135, 3) := by decide +kernel
theorem dX2_climb_58 : decode cX2_climb 58 = .ok (.ifCond .eq 36, 3) := by decide +kernel
theorem dX2_climb_61 : decode cX2_climb 61 = .ok (.aload_n 0, 1) := by decide +kernel
theorem dX2_climb_62 : decode cX2_climb 62 = .ok (.iload_n 1, 1) := by decide +kernel
theorem dX2_climb_63 : decode cX2_climb 63 = .ok (.aload_n 0, 1) := by decide +kernel
theorem dX2_climb_64 : decode cX2_climb 64 = .ok (.getfield 13, 3) := by decide +kernel
theorem dX2_climb_67 : decode cX2_climb 67 = .ok (.iload_n 1, 1) := by decide +kernel
theorem dX2_climb_68 : decode cX2_climb 68 = .ok (.iaload, 1) := by decide +kernel
theorem dX2_climb_69 : decode cX2_climb 69 = .ok (.ifCond .ge 14, 3) := by decide +kernel
theorem dX2_climb_72 : decode cX2_climb 72 = .ok (.aload_n 0, 1) := by decide +kernel
theorem dX2_climb_73 : decode cX2_climb 73 = .ok (.getfield 20, 3) := by decide +kernel
theorem dX2_climb_76 : decode cX2_climb 76 = .ok (.iload_n 1, 1) := by decide +kernel
theorem dX2_climb_77 : decode cX2_climb 77 = .ok (.laload, 1) := by decide +kernel
theorem dX2_climb_78 : decode cX2_climb 78 = .ok (.lconst 1, 1) := by decide +kernel
theorem dX2_climb_79 : decode cX2_climb 79 = .ok (.lsub, 1) := by decide +kernel
theorem dX2_climb_80 : decode cX2_climb 80 = .ok (.goto 11, 3) := by decide +kernel
theorem dX2_climb_83 : decode cX2_climb 83 = .ok (.aload_n 0, 1) := by decide +kernel
theorem dX2_climb_84 : decode cX2_climb 84 = .ok (.getfield 20, 3) := by decide +kernel
theorem dX2_climb_87 : decode cX2_climb 87 = .ok (.iload_n 1, 1) := by decide +kernel
theorem dX2_climb_88 : decode cX2_climb 88 = .ok (.laload, 1) := by decide +kernel
theorem dX2_climb_89 : decode cX2_climb 89 = .ok (.lconst 1, 1) := by decide +kernel
theorem dX2_climb_90 : decode cX2_climb 90 = .ok (.ladd, 1) := by decide +kernel
theorem dX2_climb_91 : decode cX2_climb 91 = .ok (.invokevirtual 209, 3) := by decide +kernel
theorem dX2_climb_94 : decode cX2_climb 94 = .ok (.return_, 1) := by decide +kernel
set_option maxRecDepth 20000 in
theorem ggX2_halve_X1_amount : GoodIn wsX2_halve wsX1_amount := goodIn_r _ [8, 9] (by decide +kernel) (by decide +kernel)
set_option maxRecDepth 20000 in
theorem gX2_halve_X1_amount : GoodIn wsX2_halve (va_wsS RX2 127 yX1_amount wsX1_amount) := goodIn_app (goodIn_of _ (by decide +kernel)) ggX2_halve_X1_amount
set_option maxRecDepth 20000 in
theorem ggX2_halve_X1_half : GoodIn wsX2_halve wsX1_half := goodIn_r _ [12, 13] (by decide +kernel) (by decide +kernel)
set_option maxRecDepth 20000 in
theorem gX2_halve_X1_half : GoodIn wsX2_halve (va_wsS RX2 258 yX1_half wsX1_half) := goodIn_app (goodIn_of _ (by decide +kernel)) ggX2_halve_X1_half
set_option maxRecDepth 20000 in
theorem ggX2_halve_X1_shortAmount : GoodIn wsX2_halve wsX1_shortAmount := goodIn_r _ [16, 17] (by decide +kernel) (by decide +kernel)
set_option maxRecDepth 20000 in
theorem gX2_halve_X1_shortAmount : GoodIn wsX2_halve (va_wsS RX2 135 yX1_shortAmount wsX1_shortAmount) := goodIn_app (goodIn_of _ (by decide +kernel)) ggX2_halve_X1_shortAmount
set_option maxRecDepth 20000 in
theorem ggX2_halve_X2_changeAmounts : GoodIn wsX2_halve wsX2_changeAmounts := goodIn_r _ [22, 1, 3, 23, 24, 7, 25, 26, 27, 28, 29, 21, 30, 31, 32, 33, 34, 35, 36, 37, 38, 39, 40, 41, 42, 43, 44, 45, 46, 47, 48, 49, 50, 51, 52, 53, 54] (by decide +kernel) (by decide +kernel)
set_option maxRecDepth 20000 in
theorem gX2_halve_X2_changeAmounts : GoodIn wsX2_halve (wsV RX2 242 RX2 yX2_changeAmounts wsX2_changeAmounts) := goodIn_app (goodIn_of _ (by decide +kernel)) ggX2_halve_X2_changeAmounts
theorem dX2_halve_0 : decode cX2_halve 0 = .ok (.aload_n 0, 1) := by decide +kernel
theorem dX2_halve_1 : decode cX2_halve 1 = .ok (.iload_n 1, 1) := by decide +kernel
theorem dX2_halve_2 : decode cX2_halve 2 = .ok (.aload_n 0, 1) := by decide +kernel
theorem dX2_halve_3 : decode cX2_halve 3 = .ok (.getfield 9, 3) := by decide +kernel
theorem dX2_halve_6 : decode cX2_halve 6 = .ok (.iload_n 1, 1) := by decide +kernel
theorem dX2_halve_7 : decode cX2_halve 7 = .ok (.laload, 1) := by decide +kernel
theorem dX2_halve_8 : decode cX2_halve 8 = .ok (.invokestatic 127, 3) := by decide +kernel
theorem dX2_halve_11 : decode cX2_halve 11 = .ok (.bipush 52, 2) := by decide +kernel
theorem dX2_halve_13 : decode cX2_halve 13 = .ok (.ldc2_w 133, 3) := by decide +kernel
theorem dX2_halve_16 : decode cX2_halve 16 = .ok (.invokestatic 258, 3) := by decide +kernel
theorem dX2_halve_19 : decode cX2_halve 19 = .ok (.aload_n 0, 1) := by decide +kernel
theorem dX2_halve_20 : decode cX2_halve 20 = .ok (.getfield 13, 3) := by decide +kernel
theorem dX2_halve_23 : decode cX2_halve 23 = .ok (.iload_n 1, 1) := by decide +kernel
theorem dX2_halve_24 : decode cX2_halve 24 = .ok (.iaload, 1) := by decide +kernel
theorem dX2_halve_25 : decode cX2_halve 25 = .ok (.invokestatic 135, 3) := by decide +kernel
theorem dX2_halve_28 : decode cX2_halve 28 = .ok (.i2l, 1) := by decide +kernel
theorem dX2_halve_29 : decode cX2_halve 29 = .ok (.bipush 23, 2) := by decide +kernel
theorem dX2_halve_31 : decode cX2_halve 31 = .ok (.ldc2_w 262, 3) := by decide +kernel
theorem dX2_halve_34 : decode cX2_halve 34 = .ok (.invokestatic 258, 3) := by decide +kernel
theorem dX2_halve_37 : decode cX2_halve 37 = .ok (.invokevirtual 242, 3) := by decide +kernel
theorem dX2_halve_40 : decode cX2_halve 40 = .ok (.return_, 1) := by decide +kernel
set_option maxRecDepth 20000 in
theorem ggX2_makeTwice_X1_amount : GoodIn wsX2_makeTwice wsX1_amount := goodIn_r _ [8, 9] (by decide +kernel) (by decide +kernel)
set_option maxRecDepth 20000 in
theorem gX2_makeTwice_X1_amount : GoodIn wsX2_makeTwice (va_wsS RX2 127 yX1_amount wsX1_amount) := goodIn_app (goodIn_of _ (by decide +kernel)) ggX2_makeTwice_X1_amount
set_option maxRecDepth 20000 in
theorem ggX2_makeTwice_X1_twice : GoodIn wsX2_makeTwice wsX1_twice := goodIn_r _ [12] (by decide +kernel) (by decide +kernel)
set_option maxRecDepth 20000 in
theorem gX2_makeTwice_X1_twice : GoodIn wsX2_makeTwice (va_wsS RX2 264 yX1_twice wsX1_twice) := goodIn_app (goodIn_of _ (by decide +kernel)) ggX2_makeTwice_X1_twice
set_option maxRecDepth 20000 in
theorem ggX2_makeTwice_X1_shortAmount : GoodIn wsX2_makeTwice wsX1_shortAmount := goodIn_r _ [15, 16] (by decide +kernel) (by decide +kernel)
set_option maxRecDepth 20000 in
theorem gX2_makeTwice_X1_shortAmount : GoodIn wsX2_makeTwice (va_wsS RX2 135 yX1_shortAmount wsX1_shortAmount) := goodIn_app (goodIn_of _ (by decide +kernel)) ggX2_makeTwice_X1_shortAmount
set_option maxRecDepth 20000 in
theorem ggX2_makeTwice_X2_changeAmounts : GoodIn wsX2_makeTwice wsX2_changeAmounts := goodIn_r _ [21, 1, 3, 22, 23, 7, 24, 25, 26, 27, 28, 20, 29, 30, 31, 32, 33, 34, 35, 36, 37, 38, 39, 40, 41, 42, 43, 44, 45, 46, 47, 48, 49, 50, 51, 52, 53] (by decide +kernel) (by decide +kernel)
set_option maxRecDepth 20000 in
theorem gX2_makeTwice_X2_changeAmounts : GoodIn wsX2_makeTwice (wsV RX2 242 RX2 yX2_changeAmounts wsX2_changeAmounts) := goodIn_app (goodIn_of _ (by decide +kernel)) ggX2_makeTwice_X2_changeAmounts
theorem dX2_makeTwice_0 : decode cX2_makeTwice 0 = .ok (.aload_n 0, 1) := by decide +kernel
theorem dX2_makeTwice_1 : decode cX2_makeTwice 1 = .ok (.iload_n 1, 1) := by decide +kernel
theorem dX2_makeTwice_2 : decode cX2_makeTwice 2 = .ok (.aload_n 0, 1) := by decide +kernel
theorem dX2_makeTwice_3 : decode cX2_makeTwice 3 = .ok (.getfield 9, 3) := by decide +kernel
theorem dX2_makeTwice_6 : decode cX2_makeTwice 6 = .ok (.iload_n 1, 1) := by decide +kernel
theorem dX2_makeTwice_7 : decode cX2_makeTwice 7 = .ok (.laload, 1) := by decide +kernel
theorem dX2_makeTwice_8 : decode cX2_makeTwice 8 = .ok (.invokestatic 127, 3) := by decide +kernel
theorem dX2_makeTwice_11 : decode cX2_makeTwice 11 = .ok (.bipush 52, 2) := by decide +kernel
theorem dX2_makeTwice_13 : decode cX2_makeTwice 13 = .ok (.ldc2_w 133, 3) := by decide +kernel
theorem dX2_makeTwice_16 : decode cX2_makeTwice 16 = .ok (.invokestatic 264, 3) := by decide +kernel
theorem dX2_makeTwice_19 : decode cX2_makeTwice 19 = .ok (.aload_n 0, 1) := by decide +kernel
theorem dX2_makeTwice_20 : decode cX2_makeTwice 20 = .ok (.getfield 13, 3) := by decide +kernel
theorem dX2_makeTwice_23 : decode cX2_makeTwice 23 = .ok (.iload_n 1, 1) := by decide +kernel
theorem dX2_makeTwice_24 : decode cX2_makeTwice 24 = .ok (.iaload, 1) := by decide +kernel
theorem dX2_makeTwice_25 : decode cX2_makeTwice 25 = .ok (.invokestatic 135, 3) := by decide +kernel
theorem dX2_makeTwice_28 : decode cX2_makeTwice 28 = .ok (.i2l, 1) := by decide +kernel
theorem dX2_makeTwice_29 : decode cX2_makeTwice 29 = .ok (.bipush 23, 2) := by decide +kernel
theorem dX2_makeTwice_31 : decode cX2_makeTwice 31 = .ok (.ldc2_w 262, 3) := by decide +kernel
theorem dX2_makeTwice_34 : decode cX2_makeTwice 34 = .ok (.invokestatic 264, 3) := by decide +kernel
theorem dX2_makeTwice_37 : decode cX2_makeTwice 37 = .ok (.invokevirtual 242, 3) := by decide +kernel
theorem dX2_makeTwice_40 : decode cX2_makeTwice 40 = .ok (.return_, 1) := by decide +kernel
set_option maxRecDepth 20000 in
theorem ggX2_give_X2_changeLength : GoodIn wsX2_give wsX2_changeLength := goodIn_r _ [9, 10, 11, 27, 28, 29, 30, 31, 32, 33, 34, 35, 36, 37, 38, 39, 40, 41] (by decide +kernel) (by decide +kernel)
set_option maxRecDepth 20000 in
theorem gX2_give_X2_changeLength : GoodIn wsX2_give (wsV RX2 192 RX2 yX2_changeLength wsX2_changeLength) := goodIn_app (goodIn_of _ (by decide +kernel)) ggX2_give_X2_changeLength
set_option maxRecDepth 20000 in
theorem ggX2_give_X2_changePull : GoodIn wsX2_give wsX2_changePull := goodIn_r _ [15, 16, 11, 27, 28, 29, 30, 31, 32, 33, 34, 35, 36, 37, 38, 39, 40, 41] (by decide +kernel) (by decide +kernel)
set_option maxRecDepth 20000 in
theorem gX2_give_X2_changePull : GoodIn wsX2_give (wsV RX2 196 RX2 yX2_changePull wsX2_changePull) := goodIn_app (goodIn_of _ (by decide +kernel)) ggX2_give_X2_changePull
set_option maxRecDepth 20000 in
theorem ggX2_give_X2_changeKnots : GoodIn wsX2_give wsX2_changeKnots := goodIn_r _ [20, 21, 11, 27, 28, 29, 30, 31, 32, 33, 34, 35, 36, 37, 38, 39, 40, 41] (by decide +kernel) (by decide +kernel)
set_option maxRecDepth 20000 in
theorem gX2_give_X2_changeKnots : GoodIn wsX2_give (wsV RX2 204 RX2 yX2_changeKnots wsX2_changeKnots) := goodIn_app (goodIn_of _ (by decide +kernel)) ggX2_give_X2_changeKnots
set_option maxRecDepth 20000 in
theorem ggX2_give_X2_changeTwist : GoodIn wsX2_give wsX2_changeTwist := goodIn_r _ [25, 26, 11, 27, 28, 29, 30, 31, 32, 33, 34, 35, 36, 37, 38, 39, 40, 41] (by decide +kernel) (by decide +kernel)
set_option maxRecDepth 20000 in
theorem gX2_give_X2_changeTwist : GoodIn wsX2_give (wsV RX2 209 RX2 yX2_changeTwist wsX2_changeTwist) := goodIn_app (goodIn_of _ (by decide +kernel)) ggX2_give_X2_changeTwist
theorem dX2_give_0 : decode cX2_give 0 = .ok (.aload_n 0, 1) := by decide +kernel
theorem dX2_give_1 : decode cX2_give 1 = .ok (.iload_n 1, 1) := by decide +kernel
theorem dX2_give_2 : decode cX2_give 2 = .ok (.aload_n 0, 1) := by decide +kernel
theorem dX2_give_3 : decode cX2_give 3 = .ok (.getfield 33, 3) := by decide +kernel
theorem dX2_give_6 : decode cX2_give 6 = .ok (.invokevirtual 192, 3) := by decide +kernel
theorem dX2_give_9 : decode cX2_give 9 = .ok (.aload_n 0, 1) := by decide +kernel
theorem dX2_give_10 : decode cX2_give 10 = .ok (.iload_n 1, 1) := by decide +kernel
theorem dX2_give_11 : decode cX2_give 11 = .ok (.aload_n 0, 1) := by decide +kernel
theorem dX2_give_12 : decode cX2_give 12 = .ok (.getfield 37, 3) := by decide +kernel
theorem dX2_give_15 : decode cX2_give 15 = .ok (.invokevirtual 196, 3) := by decide +kernel
theorem dX2_give_18 : decode cX2_give 18 = .ok (.aload_n 0, 1) := by decide +kernel
theorem dX2_give_19 : decode cX2_give 19 = .ok (.iload_n 1, 1) := by decide +kernel
theorem dX2_give_20 : decode cX2_give 20 = .ok (.aload_n 0, 1) := by decide +kernel
theorem dX2_give_21 : decode cX2_give 21 = .ok (.getfield 41, 3) := by decide +kernel
theorem dX2_give_24 : decode cX2_give 24 = .ok (.invokevirtual 204, 3) := by decide +kernel
theorem dX2_give_27 : decode cX2_give 27 = .ok (.aload_n 0, 1) := by decide +kernel
theorem dX2_give_28 : decode cX2_give 28 = .ok (.iload_n 1, 1) := by decide +kernel
theorem dX2_give_29 : decode cX2_give 29 = .ok (.aload_n 0, 1) := by decide +kernel
theorem dX2_give_30 : decode cX2_give 30 = .ok (.getfield 44, 3) := by decide +kernel
theorem dX2_give_33 : decode cX2_give 33 = .ok (.invokevirtual 209, 3) := by decide +kernel
theorem dX2_give_36 : decode cX2_give 36 = .ok (.return_, 1) := by decide +kernel
set_option maxRecDepth 20000 in
theorem ggX2_changeAmounts_X1_withSign : GoodIn wsX2_changeAmounts wsX1_withSign := goodIn_r _ [6, 7] (by decide +kernel) (by decide +kernel)
set_option maxRecDepth 20000 in
theorem gX2_changeAmounts_X1_withSign : GoodIn wsX2_changeAmounts (va_wsS RX2 251 yX1_withSign wsX1_withSign) := goodIn_app (goodIn_of _ (by decide +kernel)) ggX2_changeAmounts_X1_withSign
set_option maxRecDepth 20000 in
theorem ggX2_changeAmounts_X2_changeLength : GoodIn wsX2_changeAmounts wsX2_changeLength := goodIn_r _ [12, 1, 13, 22, 23, 24, 25, 26, 27, 28, 29, 30, 31, 32, 33, 34, 35, 36] (by decide +kernel) (by decide +kernel)
set_option maxRecDepth 20000 in
theorem gX2_changeAmounts_X2_changeLength : GoodIn wsX2_changeAmounts (wsV RX2 192 RX2 yX2_changeLength wsX2_changeLength) := goodIn_app (goodIn_of _ (by decide +kernel)) ggX2_changeAmounts_X2_changeLength
set_option maxRecDepth 20000 in
theorem ggX2_changeAmounts_X1_shortWithSign : GoodIn wsX2_changeAmounts wsX1_shortWithSign := goodIn_r _ [16, 17] (by decide +kernel) (by decide +kernel)
set_option maxRecDepth 20000 in
theorem gX2_changeAmounts_X1_shortWithSign : GoodIn wsX2_changeAmounts (va_wsS RX2 255 yX1_shortWithSign wsX1_shortWithSign) := goodIn_app (goodIn_of _ (by decide +kernel)) ggX2_changeAmounts_X1_shortWithSign
set_option maxRecDepth 20000 in
theorem ggX2_changeAmounts_X2_changePull : GoodIn wsX2_changeAmounts wsX2_changePull := goodIn_r _ [21, 2, 13, 22, 23, 24, 25, 26, 27, 28, 29, 30, 31, 32, 33, 34, 35, 36] (by decide +kernel) (by decide +kernel)
set_option maxRecDepth 20000 in
theorem gX2_changeAmounts_X2_changePull : GoodIn wsX2_changeAmounts (wsV RX2 196 RX2 yX2_changePull wsX2_changePull) := goodIn_app (goodIn_of _ (by decide +kernel)) ggX2_changeAmounts_X2_changePull
theorem dX2_changeAmounts_0 : decode cX2_changeAmounts 0 = .ok (.aload_n 0, 1) := by decide +kernel
theorem dX2_changeAmounts_1 : decode cX2_changeAmounts 1 = .ok (.iload_n 1, 1) := by decide +kernel
theorem dX2_changeAmounts_2 : decode cX2_changeAmounts 2 = .ok (.lload_n 2, 1) := by decide +kernel
theorem dX2_changeAmounts_3 : decode cX2_changeAmounts 3 = .ok (.aload_n 0, 1) := by decide +kernel
theorem dX2_changeAmounts_4 : decode cX2_changeAmounts 4 = .ok (.getfield 9, 3) := by decide +kernel
theorem dX2_changeAmounts_7 : decode cX2_changeAmounts 7 = .ok (.iload_n 1, 1) := by decide +kernel
theorem dX2_changeAmounts_8 : decode cX2_changeAmounts 8 = .ok (.laload, 1) := by decide +kernel
theorem dX2_changeAmounts_9 : decode cX2_changeAmounts 9 = .ok (.invokestatic 251, 3) := by decide +kernel
theorem dX2_changeAmounts_12 : decode cX2_changeAmounts 12 = .ok (.invokevirtual 192, 3) := by decide +kernel
theorem dX2_changeAmounts_15 : decode cX2_changeAmounts 15 = .ok (.aload_n 0, 1) := by decide +kernel
theorem dX2_changeAmounts_16 : decode cX2_changeAmounts 16 = .ok (.iload_n 1, 1) := by decide +kernel
theorem dX2_changeAmounts_17 : decode cX2_changeAmounts 17 = .ok (.lload 4, 2) := by decide +kernel
theorem dX2_changeAmounts_19 : decode cX2_changeAmounts 19 = .ok (.l2i, 1) := by decide +kernel
theorem dX2_changeAmounts_20 : decode cX2_changeAmounts 20 = .ok (.aload_n 0, 1) := by decide +kernel
theorem dX2_changeAmounts_21 : decode cX2_changeAmounts 21 = .ok (.getfield 13, 3) := by decide +kernel
theorem dX2_changeAmounts_24 : decode cX2_changeAmounts 24 = .ok (.iload_n 1, 1) := by decide +kernel
theorem dX2_changeAmounts_25 : decode cX2_changeAmounts 25 = .ok (.iaload, 1) := by decide +kernel
theorem dX2_changeAmounts_26 : decode cX2_changeAmounts 26 = .ok (.invokestatic 255, 3) := by decide +kernel
theorem dX2_changeAmounts_29 : decode cX2_changeAmounts 29 = .ok (.invokevirtual 196, 3) := by decide +kernel
theorem dX2_changeAmounts_32 : decode cX2_changeAmounts 32 = .ok (.return_, 1) := by decide +kernel
set_option maxRecDepth 20000 in
theorem ggX2_danceOnce_X2_refusalOfMove : GoodIn wsX2_danceOnce wsX2_refusalOfMove := goodIn_r _ [11, 12, 13, 14, 10, 15, 16, 17, 18, 19, 196, 197, 198, 199, 200, 201, 202, 203, 204, 205, 206, 207, 208, 209, 210] (by decide +kernel) (by decide +kernel)
set_option maxRecDepth 20000 in
theorem gX2_danceOnce_X2_refusalOfMove : GoodIn wsX2_danceOnce (wsV RX2 90 RX2 yX2_refusalOfMove wsX2_refusalOfMove) := goodIn_app (goodIn_of _ (by decide +kernel)) ggX2_danceOnce_X2_refusalOfMove
set_option maxRecDepth 20000 in
theorem ggX2_danceOnce_X2_perform : GoodIn wsX2_danceOnce wsX2_perform := goodIn_r _ [23, 24, 25, 26, 27, 28, 10, 29, 30, 31, 32, 33, 34, 35, 36, 37, 38, 39, 40, 41, 42, 43, 44, 45, 46, 47, 48, 49, 50, 51, 52, 53, 54, 55, 56, 57, 58, 59, 60, 61, 62, 63, 64, 65, 66, 67, 68, 69, 70, 71, 72, 73, 74, 75, 76, 77, 78, 79, 80, 81, 82, 83, 84, 85, 86, 87, 88, 89, 90, 91, 92, 93, 94, 95, 96, 97, 98, 99, 100, 101, 102, 103, 104, 105, 106, 107, 108, 109, 110, 111, 112, 113, 114, 115, 116, 117, 118, 119, 120, 121, 122, 123, 124, 125, 126, 127, 128, 129, 130, 131, 132, 133, 134, 135, 136, 137, 138, 139, 140, 141, 142, 143, 144, 145, 146, 147, 148, 149, 150, 151, 152, 153, 154, 155, 156, 157, 158, 159, 160, 161, 162, 163, 164, 165, 166, 167, 168, 169, 170, 171, 172, 173, 174, 175, 176, 177, 178, 179, 180, 181, 182, 183, 184, 185, 186, 187, 188, 189, 190, 191, 192, 193, 194, 195, 196, 197, 198, 199, 200, 201, 202, 203, 204, 205, 206, 207, 208, 209, 210] (by decide +kernel) (by decide +kernel)
set_option maxRecDepth 20000 in
theorem gX2_danceOnce_X2_perform : GoodIn wsX2_danceOnce (wsV RX2 97 RX2 yX2_perform wsX2_perform) := goodIn_app (goodIn_of _ (by decide +kernel)) ggX2_danceOnce_X2_perform
theorem dX2_danceOnce_0 : decode cX2_danceOnce 0 = .ok (.iconst 0, 1) := by decide +kernel
theorem dX2_danceOnce_1 : decode cX2_danceOnce 1 = .ok (.istore_n 1, 1) := by decide +kernel
theorem dX2_danceOnce_2 : decode cX2_danceOnce 2 = .ok (.iload_n 1, 1) := by decide +kernel
theorem dX2_danceOnce_3 : decode cX2_danceOnce 3 = .ok (.aload_n 0, 1) := by decide +kernel
theorem dX2_danceOnce_4 : decode cX2_danceOnce 4 = .ok (.getfield 50, 3) := by decide +kernel
theorem dX2_danceOnce_7 : decode cX2_danceOnce 7 = .ok (.getfield 101, 3) := by decide +kernel
theorem dX2_danceOnce_10 : decode cX2_danceOnce 10 = .ok (.if_icmp .ge 90, 3) := by decide +kernel
theorem dX2_danceOnce_13 : decode cX2_danceOnce 13 = .ok (.iload_n 1, 1) := by decide +kernel
theorem dX2_danceOnce_14 : decode cX2_danceOnce 14 = .ok (.bipush 40, 2) := by decide +kernel
theorem dX2_danceOnce_16 : decode cX2_danceOnce 16 = .ok (.if_icmp .ge 84, 3) := by decide +kernel
theorem dX2_danceOnce_19 : decode cX2_danceOnce 19 = .ok (.aload_n 0, 1) := by decide +kernel
theorem dX2_danceOnce_20 : decode cX2_danceOnce 20 = .ok (.aload_n 0, 1) := by decide +kernel
theorem dX2_danceOnce_21 : decode cX2_danceOnce 21 = .ok (.aload_n 0, 1) := by decide +kernel
theorem dX2_danceOnce_22 : decode cX2_danceOnce 22 = .ok (.getfield 50, 3) := by decide +kernel
theorem dX2_danceOnce_25 : decode cX2_danceOnce 25 = .ok (.getfield 104, 3) := by decide +kernel
theorem dX2_danceOnce_28 : decode cX2_danceOnce 28 = .ok (.iload_n 1, 1) := by decide +kernel
theorem dX2_danceOnce_29 : decode cX2_danceOnce 29 = .ok (.iaload, 1) := by decide +kernel
theorem dX2_danceOnce_30 : decode cX2_danceOnce 30 = .ok (.aload_n 0, 1) := by decide +kernel
theorem dX2_danceOnce_31 : decode cX2_danceOnce 31 = .ok (.getfield 50, 3) := by decide +kernel
theorem dX2_danceOnce_34 : decode cX2_danceOnce 34 = .ok (.getfield 107, 3) := by decide +kernel
theorem dX2_danceOnce_37 : decode cX2_danceOnce 37 = .ok (.iload_n 1, 1) := by decide +kernel
theorem dX2_danceOnce_38 : decode cX2_danceOnce 38 = .ok (.iaload, 1) := by decide +kernel
theorem dX2_danceOnce_39 : decode cX2_danceOnce 39 = .ok (.aload_n 0, 1) := by decide +kernel
theorem dX2_danceOnce_40 : decode cX2_danceOnce 40 = .ok (.getfield 50, 3) := by decide +kernel
theorem dX2_danceOnce_43 : decode cX2_danceOnce 43 = .ok (.getfield 110, 3) := by decide +kernel
theorem dX2_danceOnce_46 : decode cX2_danceOnce 46 = .ok (.iload_n 1, 1) := by decide +kernel
theorem dX2_danceOnce_47 : decode cX2_danceOnce 47 = .ok (.iaload, 1) := by decide +kernel
theorem dX2_danceOnce_48 : decode cX2_danceOnce 48 = .ok (.invokevirtual 90, 3) := by decide +kernel
theorem dX2_danceOnce_51 : decode cX2_danceOnce 51 = .ok (.putfield 54, 3) := by decide +kernel
theorem dX2_danceOnce_54 : decode cX2_danceOnce 54 = .ok (.aload_n 0, 1) := by decide +kernel
theorem dX2_danceOnce_55 : decode cX2_danceOnce 55 = .ok (.getfield 54, 3) := by decide +kernel
theorem dX2_danceOnce_58 : decode cX2_danceOnce 58 = .ok (.ifCond .eq 5, 3) := by decide +kernel
theorem dX2_danceOnce_61 : decode cX2_danceOnce 61 = .ok (.iload_n 1, 1) := by decide +kernel
theorem dX2_danceOnce_62 : decode cX2_danceOnce 62 = .ok (.ireturn, 1) := by decide +kernel
theorem dX2_danceOnce_63 : decode cX2_danceOnce 63 = .ok (.aload_n 0, 1) := by decide +kernel
theorem dX2_danceOnce_64 : decode cX2_danceOnce 64 = .ok (.aload_n 0, 1) := by decide +kernel
theorem dX2_danceOnce_65 : decode cX2_danceOnce 65 = .ok (.getfield 50, 3) := by decide +kernel
theorem dX2_danceOnce_68 : decode cX2_danceOnce 68 = .ok (.getfield 104, 3) := by decide +kernel
theorem dX2_danceOnce_71 : decode cX2_danceOnce 71 = .ok (.iload_n 1, 1) := by decide +kernel
theorem dX2_danceOnce_72 : decode cX2_danceOnce 72 = .ok (.iaload, 1) := by decide +kernel
theorem dX2_danceOnce_73 : decode cX2_danceOnce 73 = .ok (.aload_n 0, 1) := by decide +kernel
theorem dX2_danceOnce_74 : decode cX2_danceOnce 74 = .ok (.getfield 50, 3) := by decide +kernel
theorem dX2_danceOnce_77 : decode cX2_danceOnce 77 = .ok (.getfield 107, 3) := by decide +kernel
theorem dX2_danceOnce_80 : decode cX2_danceOnce 80 = .ok (.iload_n 1, 1) := by decide +kernel
theorem dX2_danceOnce_81 : decode cX2_danceOnce 81 = .ok (.iaload, 1) := by decide +kernel
theorem dX2_danceOnce_82 : decode cX2_danceOnce 82 = .ok (.aload_n 0, 1) := by decide +kernel
theorem dX2_danceOnce_83 : decode cX2_danceOnce 83 = .ok (.getfield 50, 3) := by decide +kernel
theorem dX2_danceOnce_86 : decode cX2_danceOnce 86 = .ok (.getfield 110, 3) := by decide +kernel
theorem dX2_danceOnce_89 : decode cX2_danceOnce 89 = .ok (.iload_n 1, 1) := by decide +kernel
theorem dX2_danceOnce_90 : decode cX2_danceOnce 90 = .ok (.iaload, 1) := by decide +kernel
end
section
theorem dX2_danceOnce_91 : decode cX2_danceOnce 91 = .ok (.invokevirtual 97, 3) := by decide +kernel
theorem dX2_danceOnce_94 : decode cX2_danceOnce 94 = .ok (.iinc 1 1, 3) := by decide +kernel
theorem dX2_danceOnce_97 : decode cX2_danceOnce 97 = .ok (.goto (-95), 3) := by decide +kernel
theorem dX2_danceOnce_100 : decode cX2_danceOnce 100 = .ok (.aload_n 0, 1) := by decide +kernel
theorem dX2_danceOnce_101 : decode cX2_danceOnce 101 = .ok (.getfield 50, 3) := by decide +kernel
theorem dX2_danceOnce_104 : decode cX2_danceOnce 104 = .ok (.getfield 101, 3) := by decide +kernel
theorem dX2_danceOnce_107 : decode cX2_danceOnce 107 = .ok (.ireturn, 1) := by decide +kernel
theorem dX2_keepDance_0 : decode cX2_keepDance 0 = .ok (.iconst 0, 1) := by decide +kernel
theorem dX2_keepDance_1 : decode cX2_keepDance 1 = .ok (.istore_n 2, 1) := by decide +kernel
theorem dX2_keepDance_2 : decode cX2_keepDance 2 = .ok (.iload_n 2, 1) := by decide +kernel
theorem dX2_keepDance_3 : decode cX2_keepDance 3 = .ok (.iconst 5, 1) := by decide +kernel
theorem dX2_keepDance_4 : decode cX2_keepDance 4 = .ok (.if_icmp .ge 21, 3) := by decide +kernel
theorem dX2_keepDance_7 : decode cX2_keepDance 7 = .ok (.aload_n 0, 1) := by decide +kernel
theorem dX2_keepDance_8 : decode cX2_keepDance 8 = .ok (.getfield 60, 3) := by decide +kernel
theorem dX2_keepDance_11 : decode cX2_keepDance 11 = .ok (.iload_n 2, 1) := by decide +kernel
theorem dX2_keepDance_12 : decode cX2_keepDance 12 = .ok (.aload_n 0, 1) := by decide +kernel
theorem dX2_keepDance_13 : decode cX2_keepDance 13 = .ok (.getfield 57, 3) := by decide +kernel
theorem dX2_keepDance_16 : decode cX2_keepDance 16 = .ok (.iload_n 2, 1) := by decide +kernel
theorem dX2_keepDance_17 : decode cX2_keepDance 17 = .ok (.iaload, 1) := by decide +kernel
theorem dX2_keepDance_18 : decode cX2_keepDance 18 = .ok (.iastore, 1) := by decide +kernel
theorem dX2_keepDance_19 : decode cX2_keepDance 19 = .ok (.iinc 2 1, 3) := by decide +kernel
theorem dX2_keepDance_22 : decode cX2_keepDance 22 = .ok (.goto (-20), 3) := by decide +kernel
theorem dX2_keepDance_25 : decode cX2_keepDance 25 = .ok (.aload_n 0, 1) := by decide +kernel
theorem dX2_keepDance_26 : decode cX2_keepDance 26 = .ok (.getfield 60, 3) := by decide +kernel
theorem dX2_keepDance_29 : decode cX2_keepDance 29 = .ok (.iconst 0, 1) := by decide +kernel
theorem dX2_keepDance_30 : decode cX2_keepDance 30 = .ok (.iload_n 1, 1) := by decide +kernel
theorem dX2_keepDance_31 : decode cX2_keepDance 31 = .ok (.iastore, 1) := by decide +kernel
theorem dX2_keepDance_32 : decode cX2_keepDance 32 = .ok (.return_, 1) := by decide +kernel
set_option maxRecDepth 20000 in
theorem ggX2_placeOf_X2_isAhead : GoodIn wsX2_placeOf wsX2_isAhead := goodIn_r _ [5, 6, 7, 8, 9, 4, 10, 11, 12, 13, 14, 15, 16, 17, 18, 19, 20, 21, 22, 23, 24, 25, 26, 27, 28, 29, 30, 31, 32, 33, 34, 35, 36, 37, 38, 39, 40, 41, 42, 43, 44, 45, 46] (by decide +kernel) (by decide +kernel)
set_option maxRecDepth 20000 in
theorem gX2_placeOf_X2_isAhead : GoodIn wsX2_placeOf (wsV RX2 267 RX2 yX2_isAhead wsX2_isAhead) := goodIn_app (goodIn_of _ (by decide +kernel)) ggX2_placeOf_X2_isAhead
theorem dX2_placeOf_0 : decode cX2_placeOf 0 = .ok (.iconst 0, 1) := by decide +kernel
theorem dX2_placeOf_1 : decode cX2_placeOf 1 = .ok (.istore_n 2, 1) := by decide +kernel
theorem dX2_placeOf_2 : decode cX2_placeOf 2 = .ok (.iconst 0, 1) := by decide +kernel
theorem dX2_placeOf_3 : decode cX2_placeOf 3 = .ok (.istore_n 3, 1) := by decide +kernel
theorem dX2_placeOf_4 : decode cX2_placeOf 4 = .ok (.iload_n 3, 1) := by decide +kernel
theorem dX2_placeOf_5 : decode cX2_placeOf 5 = .ok (.bipush 8, 2) := by decide +kernel
theorem dX2_placeOf_7 : decode cX2_placeOf 7 = .ok (.if_icmp .ge 21, 3) := by decide +kernel
theorem dX2_placeOf_10 : decode cX2_placeOf 10 = .ok (.aload_n 0, 1) := by decide +kernel
theorem dX2_placeOf_11 : decode cX2_placeOf 11 = .ok (.iload_n 3, 1) := by decide +kernel
theorem dX2_placeOf_12 : decode cX2_placeOf 12 = .ok (.iload_n 1, 1) := by decide +kernel
theorem dX2_placeOf_13 : decode cX2_placeOf 13 = .ok (.invokevirtual 267, 3) := by decide +kernel
theorem dX2_placeOf_16 : decode cX2_placeOf 16 = .ok (.ifCond .eq 6, 3) := by decide +kernel
theorem dX2_placeOf_19 : decode cX2_placeOf 19 = .ok (.iinc 2 1, 3) := by decide +kernel
theorem dX2_placeOf_22 : decode cX2_placeOf 22 = .ok (.iinc 3 1, 3) := by decide +kernel
theorem dX2_placeOf_25 : decode cX2_placeOf 25 = .ok (.goto (-21), 3) := by decide +kernel
theorem dX2_placeOf_28 : decode cX2_placeOf 28 = .ok (.iload_n 2, 1) := by decide +kernel
theorem dX2_placeOf_29 : decode cX2_placeOf 29 = .ok (.ireturn, 1) := by decide +kernel
set_option maxRecDepth 20000 in
theorem ggX2_isAhead_X2_compareStrung : GoodIn wsX2_isAhead wsX2_compareStrung := goodIn_r _ [6, 7, 8, 9, 10, 11, 12, 13, 14, 15, 16, 17, 18, 19, 20, 21, 22, 23, 24, 25, 26, 27, 28, 29, 30, 31, 32, 33, 34, 35, 36, 37, 38, 39, 40, 41, 42] (by decide +kernel) (by decide +kernel)
set_option maxRecDepth 20000 in
theorem gX2_isAhead_X2_compareStrung : GoodIn wsX2_isAhead (wsV RX2 271 RX2 yX2_compareStrung wsX2_compareStrung) := goodIn_app (goodIn_of _ (by decide +kernel)) ggX2_isAhead_X2_compareStrung
theorem dX2_isAhead_0 : decode cX2_isAhead 0 = .ok (.aload_n 0, 1) := by decide +kernel
theorem dX2_isAhead_1 : decode cX2_isAhead 1 = .ok (.getfield 29, 3) := by decide +kernel
theorem dX2_isAhead_4 : decode cX2_isAhead 4 = .ok (.iload_n 1, 1) := by decide +kernel
theorem dX2_isAhead_5 : decode cX2_isAhead 5 = .ok (.baload, 1) := by decide +kernel
theorem dX2_isAhead_6 : decode cX2_isAhead 6 = .ok (.aload_n 0, 1) := by decide +kernel
theorem dX2_isAhead_7 : decode cX2_isAhead 7 = .ok (.getfield 29, 3) := by decide +kernel
theorem dX2_isAhead_10 : decode cX2_isAhead 10 = .ok (.iload_n 2, 1) := by decide +kernel
theorem dX2_isAhead_11 : decode cX2_isAhead 11 = .ok (.baload, 1) := by decide +kernel
theorem dX2_isAhead_12 : decode cX2_isAhead 12 = .ok (.if_icmp .eq 10, 3) := by decide +kernel
theorem dX2_isAhead_15 : decode cX2_isAhead 15 = .ok (.aload_n 0, 1) := by decide +kernel
theorem dX2_isAhead_16 : decode cX2_isAhead 16 = .ok (.getfield 29, 3) := by decide +kernel
theorem dX2_isAhead_19 : decode cX2_isAhead 19 = .ok (.iload_n 2, 1) := by decide +kernel
theorem dX2_isAhead_20 : decode cX2_isAhead 20 = .ok (.baload, 1) := by decide +kernel
theorem dX2_isAhead_21 : decode cX2_isAhead 21 = .ok (.ireturn, 1) := by decide +kernel
theorem dX2_isAhead_22 : decode cX2_isAhead 22 = .ok (.aload_n 0, 1) := by decide +kernel
theorem dX2_isAhead_23 : decode cX2_isAhead 23 = .ok (.getfield 29, 3) := by decide +kernel
theorem dX2_isAhead_26 : decode cX2_isAhead 26 = .ok (.iload_n 1, 1) := by decide +kernel
theorem dX2_isAhead_27 : decode cX2_isAhead 27 = .ok (.baload, 1) := by decide +kernel
theorem dX2_isAhead_28 : decode cX2_isAhead 28 = .ok (.ifCond .eq 7, 3) := by decide +kernel
theorem dX2_isAhead_31 : decode cX2_isAhead 31 = .ok (.iconst 0, 1) := by decide +kernel
theorem dX2_isAhead_32 : decode cX2_isAhead 32 = .ok (.goto 9, 3) := by decide +kernel
theorem dX2_isAhead_35 : decode cX2_isAhead 35 = .ok (.aload_n 0, 1) := by decide +kernel
theorem dX2_isAhead_36 : decode cX2_isAhead 36 = .ok (.iload_n 1, 1) := by decide +kernel
theorem dX2_isAhead_37 : decode cX2_isAhead 37 = .ok (.iload_n 2, 1) := by decide +kernel
theorem dX2_isAhead_38 : decode cX2_isAhead 38 = .ok (.invokevirtual 271, 3) := by decide +kernel
theorem dX2_isAhead_41 : decode cX2_isAhead 41 = .ok (.istore_n 3, 1) := by decide +kernel
theorem dX2_isAhead_42 : decode cX2_isAhead 42 = .ok (.iload_n 3, 1) := by decide +kernel
theorem dX2_isAhead_43 : decode cX2_isAhead 43 = .ok (.ifCond .ne 16, 3) := by decide +kernel
theorem dX2_isAhead_46 : decode cX2_isAhead 46 = .ok (.iload_n 1, 1) := by decide +kernel
theorem dX2_isAhead_47 : decode cX2_isAhead 47 = .ok (.iload_n 2, 1) := by decide +kernel
theorem dX2_isAhead_48 : decode cX2_isAhead 48 = .ok (.if_icmp .ge 7, 3) := by decide +kernel
theorem dX2_isAhead_51 : decode cX2_isAhead 51 = .ok (.iconst 1, 1) := by decide +kernel
theorem dX2_isAhead_52 : decode cX2_isAhead 52 = .ok (.goto 16, 3) := by decide +kernel
theorem dX2_isAhead_55 : decode cX2_isAhead 55 = .ok (.iconst 0, 1) := by decide +kernel
theorem dX2_isAhead_56 : decode cX2_isAhead 56 = .ok (.goto 12, 3) := by decide +kernel
theorem dX2_isAhead_59 : decode cX2_isAhead 59 = .ok (.iload_n 3, 1) := by decide +kernel
theorem dX2_isAhead_60 : decode cX2_isAhead 60 = .ok (.ifCond .ge 7, 3) := by decide +kernel
theorem dX2_isAhead_63 : decode cX2_isAhead 63 = .ok (.iconst 1, 1) := by decide +kernel
theorem dX2_isAhead_64 : decode cX2_isAhead 64 = .ok (.goto 4, 3) := by decide +kernel
theorem dX2_isAhead_67 : decode cX2_isAhead 67 = .ok (.iconst 0, 1) := by decide +kernel
theorem dX2_isAhead_68 : decode cX2_isAhead 68 = .ok (.ireturn, 1) := by decide +kernel
set_option maxRecDepth 20000 in
theorem ggX2_compareStrung_X1_rank : GoodIn wsX2_compareStrung wsX1_rank := goodIn_r _ [8, 9] (by decide +kernel) (by decide +kernel)
set_option maxRecDepth 20000 in
theorem gX2_compareStrung_X1_rank : GoodIn wsX2_compareStrung (va_wsS RX2 274 yX1_rank wsX1_rank) := goodIn_app (goodIn_of _ (by decide +kernel)) ggX2_compareStrung_X1_rank
set_option maxRecDepth 20000 in
theorem ggX2_compareStrung_J13_compare_74951 : GoodIn wsX2_compareStrung wsJ13_compare_74951 := goodIn_r _ [13] (by decide +kernel) (by decide +kernel)
set_option maxRecDepth 20000 in
theorem gX2_compareStrung_J13_compare_74951 : GoodIn wsX2_compareStrung (va_wsS RX2 277 yJ13_compare_74951 wsJ13_compare_74951) := goodIn_app (goodIn_of _ (by decide +kernel)) ggX2_compareStrung_J13_compare_74951
set_option maxRecDepth 20000 in
theorem ggX2_compareStrung_X1_shortRank : GoodIn wsX2_compareStrung wsX1_shortRank := goodIn_r _ [16, 17] (by decide +kernel) (by decide +kernel)
set_option maxRecDepth 20000 in
theorem gX2_compareStrung_X1_shortRank : GoodIn wsX2_compareStrung (va_wsS RX2 283 yX1_shortRank wsX1_shortRank) := goodIn_app (goodIn_of _ (by decide +kernel)) ggX2_compareStrung_X1_shortRank
set_option maxRecDepth 20000 in
theorem ggX2_compareStrung_J6_compare_7cf53 : GoodIn wsX2_compareStrung wsJ6_compare_7cf53 := goodIn_r _ [21] (by decide +kernel) (by decide +kernel)
set_option maxRecDepth 20000 in
theorem gX2_compareStrung_J6_compare_7cf53 : GoodIn wsX2_compareStrung (va_wsS RX2 286 yJ6_compare_7cf53 wsJ6_compare_7cf53) := goodIn_app (goodIn_of _ (by decide +kernel)) ggX2_compareStrung_J6_compare_7cf53
theorem dX2_compareStrung_0 : decode cX2_compareStrung 0 = .ok (.aload_n 0, 1) := by decide +kernel
theorem dX2_compareStrung_1 : decode cX2_compareStrung 1 = .ok (.getfield 9, 3) := by decide +kernel
theorem dX2_compareStrung_4 : decode cX2_compareStrung 4 = .ok (.iload_n 1, 1) := by decide +kernel
theorem dX2_compareStrung_5 : decode cX2_compareStrung 5 = .ok (.laload, 1) := by decide +kernel
theorem dX2_compareStrung_6 : decode cX2_compareStrung 6 = .ok (.invokestatic 274, 3) := by decide +kernel
theorem dX2_compareStrung_9 : decode cX2_compareStrung 9 = .ok (.aload_n 0, 1) := by decide +kernel
theorem dX2_compareStrung_10 : decode cX2_compareStrung 10 = .ok (.getfield 9, 3) := by decide +kernel
theorem dX2_compareStrung_13 : decode cX2_compareStrung 13 = .ok (.iload_n 2, 1) := by decide +kernel
theorem dX2_compareStrung_14 : decode cX2_compareStrung 14 = .ok (.laload, 1) := by decide +kernel
theorem dX2_compareStrung_15 : decode cX2_compareStrung 15 = .ok (.invokestatic 274, 3) := by decide +kernel
theorem dX2_compareStrung_18 : decode cX2_compareStrung 18 = .ok (.invokestatic 277, 3) := by decide +kernel
theorem dX2_compareStrung_21 : decode cX2_compareStrung 21 = .ok (.istore_n 3, 1) := by decide +kernel
theorem dX2_compareStrung_22 : decode cX2_compareStrung 22 = .ok (.iload_n 3, 1) := by decide +kernel
theorem dX2_compareStrung_23 : decode cX2_compareStrung 23 = .ok (.ifCond .ne 25, 3) := by decide +kernel
theorem dX2_compareStrung_26 : decode cX2_compareStrung 26 = .ok (.aload_n 0, 1) := by decide +kernel
theorem dX2_compareStrung_27 : decode cX2_compareStrung 27 = .ok (.getfield 13, 3) := by decide +kernel
theorem dX2_compareStrung_30 : decode cX2_compareStrung 30 = .ok (.iload_n 1, 1) := by decide +kernel
theorem dX2_compareStrung_31 : decode cX2_compareStrung 31 = .ok (.iaload, 1) := by decide +kernel
theorem dX2_compareStrung_32 : decode cX2_compareStrung 32 = .ok (.invokestatic 283, 3) := by decide +kernel
theorem dX2_compareStrung_35 : decode cX2_compareStrung 35 = .ok (.aload_n 0, 1) := by decide +kernel
theorem dX2_compareStrung_36 : decode cX2_compareStrung 36 = .ok (.getfield 13, 3) := by decide +kernel
theorem dX2_compareStrung_39 : decode cX2_compareStrung 39 = .ok (.iload_n 2, 1) := by decide +kernel
theorem dX2_compareStrung_40 : decode cX2_compareStrung 40 = .ok (.iaload, 1) := by decide +kernel
theorem dX2_compareStrung_41 : decode cX2_compareStrung 41 = .ok (.invokestatic 283, 3) := by decide +kernel
theorem dX2_compareStrung_44 : decode cX2_compareStrung 44 = .ok (.invokestatic 286, 3) := by decide +kernel
theorem dX2_compareStrung_47 : decode cX2_compareStrung 47 = .ok (.istore_n 3, 1) := by decide +kernel
theorem dX2_compareStrung_48 : decode cX2_compareStrung 48 = .ok (.iload_n 3, 1) := by decide +kernel
theorem dX2_compareStrung_49 : decode cX2_compareStrung 49 = .ok (.ifCond .ne 19, 3) := by decide +kernel
theorem dX2_compareStrung_52 : decode cX2_compareStrung 52 = .ok (.aload_n 0, 1) := by decide +kernel
theorem dX2_compareStrung_53 : decode cX2_compareStrung 53 = .ok (.getfield 17, 3) := by decide +kernel
theorem dX2_compareStrung_56 : decode cX2_compareStrung 56 = .ok (.iload_n 1, 1) := by decide +kernel
theorem dX2_compareStrung_57 : decode cX2_compareStrung 57 = .ok (.iaload, 1) := by decide +kernel
theorem dX2_compareStrung_58 : decode cX2_compareStrung 58 = .ok (.aload_n 0, 1) := by decide +kernel
theorem dX2_compareStrung_59 : decode cX2_compareStrung 59 = .ok (.getfield 17, 3) := by decide +kernel
theorem dX2_compareStrung_62 : decode cX2_compareStrung 62 = .ok (.iload_n 2, 1) := by decide +kernel
theorem dX2_compareStrung_63 : decode cX2_compareStrung 63 = .ok (.iaload, 1) := by decide +kernel
theorem dX2_compareStrung_64 : decode cX2_compareStrung 64 = .ok (.invokestatic 286, 3) := by decide +kernel
theorem dX2_compareStrung_67 : decode cX2_compareStrung 67 = .ok (.istore_n 3, 1) := by decide +kernel
theorem dX2_compareStrung_68 : decode cX2_compareStrung 68 = .ok (.iload_n 3, 1) := by decide +kernel
theorem dX2_compareStrung_69 : decode cX2_compareStrung 69 = .ok (.ifCond .ne 19, 3) := by decide +kernel
theorem dX2_compareStrung_72 : decode cX2_compareStrung 72 = .ok (.aload_n 0, 1) := by decide +kernel
theorem dX2_compareStrung_73 : decode cX2_compareStrung 73 = .ok (.getfield 20, 3) := by decide +kernel
theorem dX2_compareStrung_76 : decode cX2_compareStrung 76 = .ok (.iload_n 1, 1) := by decide +kernel
theorem dX2_compareStrung_77 : decode cX2_compareStrung 77 = .ok (.laload, 1) := by decide +kernel
theorem dX2_compareStrung_78 : decode cX2_compareStrung 78 = .ok (.aload_n 0, 1) := by decide +kernel
theorem dX2_compareStrung_79 : decode cX2_compareStrung 79 = .ok (.getfield 20, 3) := by decide +kernel
theorem dX2_compareStrung_82 : decode cX2_compareStrung 82 = .ok (.iload_n 2, 1) := by decide +kernel
theorem dX2_compareStrung_83 : decode cX2_compareStrung 83 = .ok (.laload, 1) := by decide +kernel
theorem dX2_compareStrung_84 : decode cX2_compareStrung 84 = .ok (.invokestatic 277, 3) := by decide +kernel
theorem dX2_compareStrung_87 : decode cX2_compareStrung 87 = .ok (.istore_n 3, 1) := by decide +kernel
theorem dX2_compareStrung_88 : decode cX2_compareStrung 88 = .ok (.iload_n 3, 1) := by decide +kernel
theorem dX2_compareStrung_89 : decode cX2_compareStrung 89 = .ok (.ireturn, 1) := by decide +kernel
set_option maxRecDepth 20000 in
theorem ggX3_init_X3_begin : GoodIn wsX3_init wsX3_begin := goodIn_r _ [25, 5, 7, 9, 10, 11, 12, 13, 26, 27, 24, 28, 29, 30, 31, 32, 33, 34, 35, 36, 37, 38, 39, 40, 41, 42, 43, 44, 45, 46, 47, 48, 49, 50, 51, 52, 53, 54, 55, 56, 57, 58, 59, 60] (by decide +kernel) (by decide +kernel)
set_option maxRecDepth 20000 in
theorem gX3_init_X3_begin : GoodIn wsX3_init (wsV RX3 54 RX3 yX3_begin wsX3_begin) := goodIn_app (goodIn_of _ (by decide +kernel)) ggX3_init_X3_begin
theorem dX3_init_0 : decode cX3_init 0 = .ok (.aload_n 0, 1) := by decide +kernel
theorem dX3_init_1 : decode cX3_init 1 = .ok (.invokespecial 1, 3) := by decide +kernel
theorem dX3_init_4 : decode cX3_init 4 = .ok (.aload_n 0, 1) := by decide +kernel
theorem dX3_init_5 : decode cX3_init 5 = .ok (.bipush 8, 2) := by decide +kernel
theorem dX3_init_7 : decode cX3_init 7 = .ok (.newarray .boolean, 2) := by decide +kernel
theorem dX3_init_9 : decode cX3_init 9 = .ok (.putfield 7, 3) := by decide +kernel
theorem dX3_init_12 : decode cX3_init 12 = .ok (.aload_n 0, 1) := by decide +kernel
theorem dX3_init_13 : decode cX3_init 13 = .ok (.bipush 8, 2) := by decide +kernel
theorem dX3_init_15 : decode cX3_init 15 = .ok (.newarray .long, 2) := by decide +kernel
theorem dX3_init_17 : decode cX3_init 17 = .ok (.putfield 13, 3) := by decide +kernel
theorem dX3_init_20 : decode cX3_init 20 = .ok (.aload_n 0, 1) := by decide +kernel
theorem dX3_init_21 : decode cX3_init 21 = .ok (.bipush 8, 2) := by decide +kernel
theorem dX3_init_23 : decode cX3_init 23 = .ok (.newarray .int, 2) := by decide +kernel
theorem dX3_init_25 : decode cX3_init 25 = .ok (.putfield 17, 3) := by decide +kernel
theorem dX3_init_28 : decode cX3_init 28 = .ok (.aload_n 0, 1) := by decide +kernel
theorem dX3_init_29 : decode cX3_init 29 = .ok (.bipush 8, 2) := by decide +kernel
theorem dX3_init_31 : decode cX3_init 31 = .ok (.newarray .int, 2) := by decide +kernel
theorem dX3_init_33 : decode cX3_init 33 = .ok (.putfield 21, 3) := by decide +kernel
theorem dX3_init_36 : decode cX3_init 36 = .ok (.aload_n 0, 1) := by decide +kernel
theorem dX3_init_37 : decode cX3_init 37 = .ok (.bipush 8, 2) := by decide +kernel
theorem dX3_init_39 : decode cX3_init 39 = .ok (.newarray .long, 2) := by decide +kernel
theorem dX3_init_41 : decode cX3_init 41 = .ok (.putfield 24, 3) := by decide +kernel
theorem dX3_init_44 : decode cX3_init 44 = .ok (.aload_n 0, 1) := by decide +kernel
theorem dX3_init_45 : decode cX3_init 45 = .ok (.bipush 8, 2) := by decide +kernel
theorem dX3_init_47 : decode cX3_init 47 = .ok (.newarray .long, 2) := by decide +kernel
theorem dX3_init_49 : decode cX3_init 49 = .ok (.putfield 27, 3) := by decide +kernel
theorem dX3_init_52 : decode cX3_init 52 = .ok (.aload_n 0, 1) := by decide +kernel
theorem dX3_init_53 : decode cX3_init 53 = .ok (.bipush 8, 2) := by decide +kernel
theorem dX3_init_55 : decode cX3_init 55 = .ok (.newarray .long, 2) := by decide +kernel
theorem dX3_init_57 : decode cX3_init 57 = .ok (.putfield 30, 3) := by decide +kernel
theorem dX3_init_60 : decode cX3_init 60 = .ok (.aload_n 0, 1) := by decide +kernel
theorem dX3_init_61 : decode cX3_init 61 = .ok (.bipush 120, 2) := by decide +kernel
theorem dX3_init_63 : decode cX3_init 63 = .ok (.newarray .int, 2) := by decide +kernel
theorem dX3_init_65 : decode cX3_init 65 = .ok (.putfield 33, 3) := by decide +kernel
theorem dX3_init_68 : decode cX3_init 68 = .ok (.aload_n 0, 1) := by decide +kernel
theorem dX3_init_69 : decode cX3_init 69 = .ok (.iconst 4, 1) := by decide +kernel
theorem dX3_init_70 : decode cX3_init 70 = .ok (.newarray .int, 2) := by decide +kernel
theorem dX3_init_72 : decode cX3_init 72 = .ok (.putfield 36, 3) := by decide +kernel
theorem dX3_init_75 : decode cX3_init 75 = .ok (.aload_n 0, 1) := by decide +kernel
theorem dX3_init_76 : decode cX3_init 76 = .ok (.bipush 8, 2) := by decide +kernel
theorem dX3_init_78 : decode cX3_init 78 = .ok (.newarray .long, 2) := by decide +kernel
theorem dX3_init_80 : decode cX3_init 80 = .ok (.putfield 39, 3) := by decide +kernel
theorem dX3_init_83 : decode cX3_init 83 = .ok (.aload_n 0, 1) := by decide +kernel
theorem dX3_init_84 : decode cX3_init 84 = .ok (.bipush 8, 2) := by decide +kernel
theorem dX3_init_86 : decode cX3_init 86 = .ok (.newarray .int, 2) := by decide +kernel
theorem dX3_init_88 : decode cX3_init 88 = .ok (.putfield 42, 3) := by decide +kernel
theorem dX3_init_91 : decode cX3_init 91 = .ok (.aload_n 0, 1) := by decide +kernel
theorem dX3_init_92 : decode cX3_init 92 = .ok (.bipush 8, 2) := by decide +kernel
theorem dX3_init_94 : decode cX3_init 94 = .ok (.newarray .int, 2) := by decide +kernel
theorem dX3_init_96 : decode cX3_init 96 = .ok (.putfield 45, 3) := by decide +kernel
theorem dX3_init_99 : decode cX3_init 99 = .ok (.aload_n 0, 1) := by decide +kernel
theorem dX3_init_100 : decode cX3_init 100 = .ok (.bipush 8, 2) := by decide +kernel
theorem dX3_init_102 : decode cX3_init 102 = .ok (.newarray .long, 2) := by decide +kernel
theorem dX3_init_104 : decode cX3_init 104 = .ok (.putfield 48, 3) := by decide +kernel
theorem dX3_init_107 : decode cX3_init 107 = .ok (.aload_n 0, 1) := by decide +kernel
theorem dX3_init_108 : decode cX3_init 108 = .ok (.iconst 4, 1) := by decide +kernel
theorem dX3_init_109 : decode cX3_init 109 = .ok (.newarray .int, 2) := by decide +kernel
theorem dX3_init_111 : decode cX3_init 111 = .ok (.putfield 51, 3) := by decide +kernel
theorem dX3_init_114 : decode cX3_init 114 = .ok (.iconst 0, 1) := by decide +kernel
theorem dX3_init_115 : decode cX3_init 115 = .ok (.istore_n 1, 1) := by decide +kernel
theorem dX3_init_116 : decode cX3_init 116 = .ok (.iload_n 1, 1) := by decide +kernel
theorem dX3_init_117 : decode cX3_init 117 = .ok (.bipush 8, 2) := by decide +kernel
theorem dX3_init_119 : decode cX3_init 119 = .ok (.if_icmp .ge 14, 3) := by decide +kernel
theorem dX3_init_122 : decode cX3_init 122 = .ok (.aload_n 0, 1) := by decide +kernel
theorem dX3_init_123 : decode cX3_init 123 = .ok (.iload_n 1, 1) := by decide +kernel
theorem dX3_init_124 : decode cX3_init 124 = .ok (.invokevirtual 54, 3) := by decide +kernel
theorem dX3_init_127 : decode cX3_init 127 = .ok (.iinc 1 1, 3) := by decide +kernel
theorem dX3_init_130 : decode cX3_init 130 = .ok (.goto (-14), 3) := by decide +kernel
theorem dX3_init_133 : decode cX3_init 133 = .ok (.return_, 1) := by decide +kernel
set_option maxRecDepth 20000 in
theorem ggX3_begin_X3_endless : GoodIn wsX3_begin wsX3_endless := goodIn_r _ [11, 12, 13, 14, 10, 15, 16, 17] (by decide +kernel) (by decide +kernel)
set_option maxRecDepth 20000 in
theorem gX3_begin_X3_endless : GoodIn wsX3_begin (va_wsS RX3 58 yX3_endless wsX3_endless) := goodIn_app (goodIn_of _ (by decide +kernel)) ggX3_begin_X3_endless
set_option maxRecDepth 20000 in
theorem ggX3_begin_X3_sign : GoodIn wsX3_begin wsX3_sign := goodIn_r _ [20, 21, 22] (by decide +kernel) (by decide +kernel)
set_option maxRecDepth 20000 in
theorem gX3_begin_X3_sign : GoodIn wsX3_begin (va_wsS RX3 62 yX3_sign wsX3_sign) := goodIn_app (goodIn_of _ (by decide +kernel)) ggX3_begin_X3_sign
theorem dX3_begin_0 : decode cX3_begin 0 = .ok (.aload_n 0, 1) := by decide +kernel
theorem dX3_begin_1 : decode cX3_begin 1 = .ok (.getfield 7, 3) := by decide +kernel
theorem dX3_begin_4 : decode cX3_begin 4 = .ok (.iload_n 1, 1) := by decide +kernel
theorem dX3_begin_5 : decode cX3_begin 5 = .ok (.iconst 0, 1) := by decide +kernel
theorem dX3_begin_6 : decode cX3_begin 6 = .ok (.bastore, 1) := by decide +kernel
theorem dX3_begin_7 : decode cX3_begin 7 = .ok (.aload_n 0, 1) := by decide +kernel
theorem dX3_begin_8 : decode cX3_begin 8 = .ok (.getfield 13, 3) := by decide +kernel
theorem dX3_begin_11 : decode cX3_begin 11 = .ok (.iload_n 1, 1) := by decide +kernel
theorem dX3_begin_12 : decode cX3_begin 12 = .ok (.lconst 0, 1) := by decide +kernel
theorem dX3_begin_13 : decode cX3_begin 13 = .ok (.lastore, 1) := by decide +kernel
theorem dX3_begin_14 : decode cX3_begin 14 = .ok (.aload_n 0, 1) := by decide +kernel
theorem dX3_begin_15 : decode cX3_begin 15 = .ok (.getfield 17, 3) := by decide +kernel
theorem dX3_begin_18 : decode cX3_begin 18 = .ok (.iload_n 1, 1) := by decide +kernel
theorem dX3_begin_19 : decode cX3_begin 19 = .ok (.iconst 0, 1) := by decide +kernel
theorem dX3_begin_20 : decode cX3_begin 20 = .ok (.iastore, 1) := by decide +kernel
theorem dX3_begin_21 : decode cX3_begin 21 = .ok (.aload_n 0, 1) := by decide +kernel
theorem dX3_begin_22 : decode cX3_begin 22 = .ok (.getfield 21, 3) := by decide +kernel
theorem dX3_begin_25 : decode cX3_begin 25 = .ok (.iload_n 1, 1) := by decide +kernel
theorem dX3_begin_26 : decode cX3_begin 26 = .ok (.iconst 0, 1) := by decide +kernel
theorem dX3_begin_27 : decode cX3_begin 27 = .ok (.iastore, 1) := by decide +kernel
theorem dX3_begin_28 : decode cX3_begin 28 = .ok (.aload_n 0, 1) := by decide +kernel
theorem dX3_begin_29 : decode cX3_begin 29 = .ok (.getfield 24, 3) := by decide +kernel
theorem dX3_begin_32 : decode cX3_begin 32 = .ok (.iload_n 1, 1) := by decide +kernel
theorem dX3_begin_33 : decode cX3_begin 33 = .ok (.lconst 0, 1) := by decide +kernel
theorem dX3_begin_34 : decode cX3_begin 34 = .ok (.lastore, 1) := by decide +kernel
theorem dX3_begin_35 : decode cX3_begin 35 = .ok (.aload_n 0, 1) := by decide +kernel
theorem dX3_begin_36 : decode cX3_begin 36 = .ok (.getfield 27, 3) := by decide +kernel
theorem dX3_begin_39 : decode cX3_begin 39 = .ok (.iload_n 1, 1) := by decide +kernel
theorem dX3_begin_40 : decode cX3_begin 40 = .ok (.bipush 52, 2) := by decide +kernel
theorem dX3_begin_42 : decode cX3_begin 42 = .ok (.invokestatic 58, 3) := by decide +kernel
theorem dX3_begin_45 : decode cX3_begin 45 = .ok (.bipush 52, 2) := by decide +kernel
theorem dX3_begin_47 : decode cX3_begin 47 = .ok (.invokestatic 62, 3) := by decide +kernel
theorem dX3_begin_50 : decode cX3_begin 50 = .ok (.lor, 1) := by decide +kernel
theorem dX3_begin_51 : decode cX3_begin 51 = .ok (.lastore, 1) := by decide +kernel
theorem dX3_begin_52 : decode cX3_begin 52 = .ok (.aload_n 0, 1) := by decide +kernel
theorem dX3_begin_53 : decode cX3_begin 53 = .ok (.getfield 30, 3) := by decide +kernel
theorem dX3_begin_56 : decode cX3_begin 56 = .ok (.iload_n 1, 1) := by decide +kernel
theorem dX3_begin_57 : decode cX3_begin 57 = .ok (.bipush 52, 2) := by decide +kernel
theorem dX3_begin_59 : decode cX3_begin 59 = .ok (.invokestatic 58, 3) := by decide +kernel
theorem dX3_begin_62 : decode cX3_begin 62 = .ok (.lastore, 1) := by decide +kernel
theorem dX3_begin_63 : decode cX3_begin 63 = .ok (.return_, 1) := by decide +kernel
theorem dX3_sign_0 : decode cX3_sign 0 = .ok (.iload_n 0, 1) := by decide +kernel
theorem dX3_sign_1 : decode cX3_sign 1 = .ok (.bipush 52, 2) := by decide +kernel
theorem dX3_sign_3 : decode cX3_sign 3 = .ok (.if_icmp .ne 9, 3) := by decide +kernel
theorem dX3_sign_6 : decode cX3_sign 6 = .ok (.ldc2_w 65, 3) := by decide +kernel
theorem dX3_sign_9 : decode cX3_sign 9 = .ok (.goto 6, 3) := by decide +kernel
theorem dX3_sign_12 : decode cX3_sign 12 = .ok (.ldc2_w 67, 3) := by decide +kernel
theorem dX3_sign_15 : decode cX3_sign 15 = .ok (.lreturn, 1) := by decide +kernel
theorem dX3_bias_0 : decode cX3_bias 0 = .ok (.iload_n 0, 1) := by decide +kernel
theorem dX3_bias_1 : decode cX3_bias 1 = .ok (.bipush 52, 2) := by decide +kernel
theorem dX3_bias_3 : decode cX3_bias 3 = .ok (.if_icmp .ne 9, 3) := by decide +kernel
theorem dX3_bias_6 : decode cX3_bias 6 = .ok (.ldc2_w 69, 3) := by decide +kernel
theorem dX3_bias_9 : decode cX3_bias 9 = .ok (.goto 6, 3) := by decide +kernel
theorem dX3_bias_12 : decode cX3_bias 12 = .ok (.ldc2_w 71, 3) := by decide +kernel
theorem dX3_bias_15 : decode cX3_bias 15 = .ok (.lreturn, 1) := by decide +kernel
set_option maxRecDepth 20000 in
theorem ggX3_one_X3_bias : GoodIn wsX3_one wsX3_bias := goodIn_r _ [4, 5, 6] (by decide +kernel) (by decide +kernel)
set_option maxRecDepth 20000 in
theorem gX3_one_X3_bias : GoodIn wsX3_one (va_wsS RX3 73 yX3_bias wsX3_bias) := goodIn_app (goodIn_of _ (by decide +kernel)) ggX3_one_X3_bias
theorem dX3_one_0 : decode cX3_one 0 = .ok (.iload_n 0, 1) := by decide +kernel
theorem dX3_one_1 : decode cX3_one 1 = .ok (.invokestatic 73, 3) := by decide +kernel
theorem dX3_one_4 : decode cX3_one 4 = .ok (.iload_n 0, 1) := by decide +kernel
theorem dX3_one_5 : decode cX3_one 5 = .ok (.lshl, 1) := by decide +kernel
theorem dX3_one_6 : decode cX3_one 6 = .ok (.lreturn, 1) := by decide +kernel
set_option maxRecDepth 20000 in
theorem ggX3_endless_X3_bias : GoodIn wsX3_endless wsX3_bias := goodIn_r _ [5, 6, 7] (by decide +kernel) (by decide +kernel)
set_option maxRecDepth 20000 in
theorem gX3_endless_X3_bias : GoodIn wsX3_endless (va_wsS RX3 73 yX3_bias wsX3_bias) := goodIn_app (goodIn_of _ (by decide +kernel)) ggX3_endless_X3_bias
theorem dX3_endless_0 : decode cX3_endless 0 = .ok (.ldc2_w 76, 3) := by decide +kernel
theorem dX3_endless_3 : decode cX3_endless 3 = .ok (.iload_n 0, 1) := by decide +kernel
theorem dX3_endless_4 : decode cX3_endless 4 = .ok (.invokestatic 73, 3) := by decide +kernel
theorem dX3_endless_7 : decode cX3_endless 7 = .ok (.lmul, 1) := by decide +kernel
theorem dX3_endless_8 : decode cX3_endless 8 = .ok (.lconst 1, 1) := by decide +kernel
theorem dX3_endless_9 : decode cX3_endless 9 = .ok (.ladd, 1) := by decide +kernel
theorem dX3_endless_10 : decode cX3_endless 10 = .ok (.iload_n 0, 1) := by decide +kernel
theorem dX3_endless_11 : decode cX3_endless 11 = .ok (.lshl, 1) := by decide +kernel
theorem dX3_endless_12 : decode cX3_endless 12 = .ok (.lreturn, 1) := by decide +kernel
set_option maxRecDepth 20000 in
theorem ggX3_amount_X3_sign : GoodIn wsX3_amount wsX3_sign := goodIn_r _ [5, 6, 7] (by decide +kernel) (by decide +kernel)
set_option maxRecDepth 20000 in
theorem gX3_amount_X3_sign : GoodIn wsX3_amount (va_wsS RX3 62 yX3_sign wsX3_sign) := goodIn_app (goodIn_of _ (by decide +kernel)) ggX3_amount_X3_sign
theorem dX3_amount_0 : decode cX3_amount 0 = .ok (.lload_n 0, 1) := by decide +kernel
theorem dX3_amount_1 : decode cX3_amount 1 = .ok (.iload_n 2, 1) := by decide +kernel
theorem dX3_amount_2 : decode cX3_amount 2 = .ok (.invokestatic 62, 3) := by decide +kernel
theorem dX3_amount_5 : decode cX3_amount 5 = .ok (.ldc2_w 78, 3) := by decide +kernel
theorem dX3_amount_8 : decode cX3_amount 8 = .ok (.lxor, 1) := by decide +kernel
theorem dX3_amount_9 : decode cX3_amount 9 = .ok (.land, 1) := by decide +kernel
theorem dX3_amount_10 : decode cX3_amount 10 = .ok (.lreturn, 1) := by decide +kernel
set_option maxRecDepth 20000 in
theorem ggX3_isBelow_X3_sign : GoodIn wsX3_isBelow wsX3_sign := goodIn_r _ [4, 5, 6] (by decide +kernel) (by decide +kernel)
set_option maxRecDepth 20000 in
theorem gX3_isBelow_X3_sign : GoodIn wsX3_isBelow (va_wsS RX3 62 yX3_sign wsX3_sign) := goodIn_app (goodIn_of _ (by decide +kernel)) ggX3_isBelow_X3_sign
theorem dX3_isBelow_0 : decode cX3_isBelow 0 = .ok (.lload_n 0, 1) := by decide +kernel
theorem dX3_isBelow_1 : decode cX3_isBelow 1 = .ok (.iload_n 2, 1) := by decide +kernel
theorem dX3_isBelow_2 : decode cX3_isBelow 2 = .ok (.invokestatic 62, 3) := by decide +kernel
theorem dX3_isBelow_5 : decode cX3_isBelow 5 = .ok (.land, 1) := by decide +kernel
theorem dX3_isBelow_6 : decode cX3_isBelow 6 = .ok (.lconst 0, 1) := by decide +kernel
theorem dX3_isBelow_7 : decode cX3_isBelow 7 = .ok (.lcmp, 1) := by decide +kernel
theorem dX3_isBelow_8 : decode cX3_isBelow 8 = .ok (.ifCond .eq 7, 3) := by decide +kernel
theorem dX3_isBelow_11 : decode cX3_isBelow 11 = .ok (.iconst 1, 1) := by decide +kernel
theorem dX3_isBelow_12 : decode cX3_isBelow 12 = .ok (.goto 4, 3) := by decide +kernel
theorem dX3_isBelow_15 : decode cX3_isBelow 15 = .ok (.iconst 0, 1) := by decide +kernel
theorem dX3_isBelow_16 : decode cX3_isBelow 16 = .ok (.ireturn, 1) := by decide +kernel
set_option maxRecDepth 20000 in
theorem ggX3_isNumber_X3_amount : GoodIn wsX3_isNumber wsX3_amount := goodIn_r _ [4, 5, 6, 7, 3, 8, 9, 10] (by decide +kernel) (by decide +kernel)
set_option maxRecDepth 20000 in
theorem gX3_isNumber_X3_amount : GoodIn wsX3_isNumber (va_wsS RX3 80 yX3_amount wsX3_amount) := goodIn_app (goodIn_of _ (by decide +kernel)) ggX3_isNumber_X3_amount
set_option maxRecDepth 20000 in
theorem ggX3_isNumber_X3_endless : GoodIn wsX3_isNumber wsX3_endless := goodIn_r _ [13, 14, 15, 16, 3, 17, 18, 19] (by decide +kernel) (by decide +kernel)
set_option maxRecDepth 20000 in
theorem gX3_isNumber_X3_endless : GoodIn wsX3_isNumber (va_wsS RX3 58 yX3_endless wsX3_endless) := goodIn_app (goodIn_of _ (by decide +kernel)) ggX3_isNumber_X3_endless
theorem dX3_isNumber_0 : decode cX3_isNumber 0 = .ok (.lload_n 0, 1) := by decide +kernel
theorem dX3_isNumber_1 : decode cX3_isNumber 1 = .ok (.iload_n 2, 1) := by decide +kernel
theorem dX3_isNumber_2 : decode cX3_isNumber 2 = .ok (.invokestatic 80, 3) := by decide +kernel
theorem dX3_isNumber_5 : decode cX3_isNumber 5 = .ok (.iload_n 2, 1) := by decide +kernel
theorem dX3_isNumber_6 : decode cX3_isNumber 6 = .ok (.invokestatic 58, 3) := by decide +kernel
theorem dX3_isNumber_9 : decode cX3_isNumber 9 = .ok (.lcmp, 1) := by decide +kernel
theorem dX3_isNumber_10 : decode cX3_isNumber 10 = .ok (.ifCond .gt 7, 3) := by decide +kernel
theorem dX3_isNumber_13 : decode cX3_isNumber 13 = .ok (.iconst 1, 1) := by decide +kernel
theorem dX3_isNumber_14 : decode cX3_isNumber 14 = .ok (.goto 4, 3) := by decide +kernel
theorem dX3_isNumber_17 : decode cX3_isNumber 17 = .ok (.iconst 0, 1) := by decide +kernel
theorem dX3_isNumber_18 : decode cX3_isNumber 18 = .ok (.ireturn, 1) := by decide +kernel
set_option maxRecDepth 20000 in
theorem ggX3_down_X3_amount : GoodIn wsX3_down wsX3_amount := goodIn_r _ [5, 1, 6, 7, 4, 8, 9, 10] (by decide +kernel) (by decide +kernel)
set_option maxRecDepth 20000 in
theorem gX3_down_X3_amount : GoodIn wsX3_down (va_wsS RX3 80 yX3_amount wsX3_amount) := goodIn_app (goodIn_of _ (by decide +kernel)) ggX3_down_X3_amount
set_option maxRecDepth 20000 in
theorem ggX3_down_X3_bias : GoodIn wsX3_down wsX3_bias := goodIn_r _ [13, 14, 15] (by decide +kernel) (by decide +kernel)
set_option maxRecDepth 20000 in
theorem gX3_down_X3_bias : GoodIn wsX3_down (va_wsS RX3 73 yX3_bias wsX3_bias) := goodIn_app (goodIn_of _ (by decide +kernel)) ggX3_down_X3_bias
set_option maxRecDepth 20000 in
theorem ggX3_down_X3_one : GoodIn wsX3_down wsX3_one := goodIn_r _ [18, 11, 12, 4, 13, 14, 15] (by decide +kernel) (by decide +kernel)
set_option maxRecDepth 20000 in
theorem gX3_down_X3_one : GoodIn wsX3_down (va_wsS RX3 84 yX3_one wsX3_one) := goodIn_app (goodIn_of _ (by decide +kernel)) ggX3_down_X3_one
set_option maxRecDepth 20000 in
theorem ggX3_down_X3_isBelow : GoodIn wsX3_down wsX3_isBelow := goodIn_r _ [21, 6, 7, 4, 8, 9, 10] (by decide +kernel) (by decide +kernel)
set_option maxRecDepth 20000 in
theorem gX3_down_X3_isBelow : GoodIn wsX3_down (va_wsS RX3 87 yX3_isBelow wsX3_isBelow) := goodIn_app (goodIn_of _ (by decide +kernel)) ggX3_down_X3_isBelow
set_option maxRecDepth 20000 in
theorem ggX3_down_X3_sign : GoodIn wsX3_down wsX3_sign := goodIn_r _ [8, 9, 10] (by decide +kernel) (by decide +kernel)
set_option maxRecDepth 20000 in
theorem gX3_down_X3_sign : GoodIn wsX3_down (va_wsS RX3 62 yX3_sign wsX3_sign) := goodIn_app (goodIn_of _ (by decide +kernel)) ggX3_down_X3_sign
theorem dX3_down_0 : decode cX3_down 0 = .ok (.lload_n 0, 1) := by decide +kernel
theorem dX3_down_1 : decode cX3_down 1 = .ok (.iload_n 2, 1) := by decide +kernel
theorem dX3_down_2 : decode cX3_down 2 = .ok (.invokestatic 80, 3) := by decide +kernel
theorem dX3_down_5 : decode cX3_down 5 = .ok (.lstore_n 3, 1) := by decide +kernel
theorem dX3_down_6 : decode cX3_down 6 = .ok (.lload_n 3, 1) := by decide +kernel
theorem dX3_down_7 : decode cX3_down 7 = .ok (.lconst 0, 1) := by decide +kernel
theorem dX3_down_8 : decode cX3_down 8 = .ok (.lcmp, 1) := by decide +kernel
theorem dX3_down_9 : decode cX3_down 9 = .ok (.ifCond .eq 17, 3) := by decide +kernel
theorem dX3_down_12 : decode cX3_down 12 = .ok (.lload_n 3, 1) := by decide +kernel
theorem dX3_down_13 : decode cX3_down 13 = .ok (.iload_n 2, 1) := by decide +kernel
theorem dX3_down_14 : decode cX3_down 14 = .ok (.invokestatic 73, 3) := by decide +kernel
theorem dX3_down_17 : decode cX3_down 17 = .ok (.iload_n 2, 1) := by decide +kernel
theorem dX3_down_18 : decode cX3_down 18 = .ok (.i2l, 1) := by decide +kernel
theorem dX3_down_19 : decode cX3_down 19 = .ok (.ladd, 1) := by decide +kernel
theorem dX3_down_20 : decode cX3_down 20 = .ok (.iload_n 2, 1) := by decide +kernel
theorem dX3_down_21 : decode cX3_down 21 = .ok (.lshl, 1) := by decide +kernel
theorem dX3_down_22 : decode cX3_down 22 = .ok (.lcmp, 1) := by decide +kernel
theorem dX3_down_23 : decode cX3_down 23 = .ok (.ifCond .lt 5, 3) := by decide +kernel
theorem dX3_down_26 : decode cX3_down 26 = .ok (.lload_n 0, 1) := by decide +kernel
theorem dX3_down_27 : decode cX3_down 27 = .ok (.lreturn, 1) := by decide +kernel
theorem dX3_down_28 : decode cX3_down 28 = .ok (.lload_n 3, 1) := by decide +kernel
theorem dX3_down_29 : decode cX3_down 29 = .ok (.iload_n 2, 1) := by decide +kernel
theorem dX3_down_30 : decode cX3_down 30 = .ok (.invokestatic 84, 3) := by decide +kernel
theorem dX3_down_33 : decode cX3_down 33 = .ok (.lcmp, 1) := by decide +kernel
theorem dX3_down_34 : decode cX3_down 34 = .ok (.ifCond .ge 25, 3) := by decide +kernel
theorem dX3_down_37 : decode cX3_down 37 = .ok (.lload_n 0, 1) := by decide +kernel
theorem dX3_down_38 : decode cX3_down 38 = .ok (.iload_n 2, 1) := by decide +kernel
theorem dX3_down_39 : decode cX3_down 39 = .ok (.invokestatic 87, 3) := by decide +kernel
theorem dX3_down_42 : decode cX3_down 42 = .ok (.ifCond .eq 15, 3) := by decide +kernel
theorem dX3_down_45 : decode cX3_down 45 = .ok (.iload_n 2, 1) := by decide +kernel
theorem dX3_down_46 : decode cX3_down 46 = .ok (.invokestatic 62, 3) := by decide +kernel
theorem dX3_down_49 : decode cX3_down 49 = .ok (.iload_n 2, 1) := by decide +kernel
theorem dX3_down_50 : decode cX3_down 50 = .ok (.invokestatic 84, 3) := by decide +kernel
theorem dX3_down_53 : decode cX3_down 53 = .ok (.lor, 1) := by decide +kernel
theorem dX3_down_54 : decode cX3_down 54 = .ok (.goto 4, 3) := by decide +kernel
theorem dX3_down_57 : decode cX3_down 57 = .ok (.lconst 0, 1) := by decide +kernel
theorem dX3_down_58 : decode cX3_down 58 = .ok (.lreturn, 1) := by decide +kernel
theorem dX3_down_59 : decode cX3_down 59 = .ok (.lconst 1, 1) := by decide +kernel
theorem dX3_down_60 : decode cX3_down 60 = .ok (.iload_n 2, 1) := by decide +kernel
theorem dX3_down_61 : decode cX3_down 61 = .ok (.lload_n 3, 1) := by decide +kernel
theorem dX3_down_62 : decode cX3_down 62 = .ok (.iload_n 2, 1) := by decide +kernel
theorem dX3_down_63 : decode cX3_down 63 = .ok (.lshr, 1) := by decide +kernel
theorem dX3_down_64 : decode cX3_down 64 = .ok (.iload_n 2, 1) := by decide +kernel
theorem dX3_down_65 : decode cX3_down 65 = .ok (.invokestatic 73, 3) := by decide +kernel
theorem dX3_down_68 : decode cX3_down 68 = .ok (.lsub, 1) := by decide +kernel
theorem dX3_down_69 : decode cX3_down 69 = .ok (.l2i, 1) := by decide +kernel
theorem dX3_down_70 : decode cX3_down 70 = .ok (.isub, 1) := by decide +kernel
theorem dX3_down_71 : decode cX3_down 71 = .ok (.lshl, 1) := by decide +kernel
theorem dX3_down_72 : decode cX3_down 72 = .ok (.lconst 1, 1) := by decide +kernel
theorem dX3_down_73 : decode cX3_down 73 = .ok (.lsub, 1) := by decide +kernel
theorem dX3_down_74 : decode cX3_down 74 = .ok (.lstore 5, 2) := by decide +kernel
theorem dX3_down_76 : decode cX3_down 76 = .ok (.lload_n 0, 1) := by decide +kernel
theorem dX3_down_77 : decode cX3_down 77 = .ok (.iload_n 2, 1) := by decide +kernel
theorem dX3_down_78 : decode cX3_down 78 = .ok (.invokestatic 87, 3) := by decide +kernel
theorem dX3_down_81 : decode cX3_down 81 = .ok (.ifCond .eq 22, 3) := by decide +kernel
theorem dX3_down_84 : decode cX3_down 84 = .ok (.iload_n 2, 1) := by decide +kernel
theorem dX3_down_85 : decode cX3_down 85 = .ok (.invokestatic 62, 3) := by decide +kernel
theorem dX3_down_88 : decode cX3_down 88 = .ok (.lload_n 3, 1) := by decide +kernel
theorem dX3_down_89 : decode cX3_down 89 = .ok (.lload 5, 2) := by decide +kernel
theorem dX3_down_91 : decode cX3_down 91 = .ok (.ladd, 1) := by decide +kernel
theorem dX3_down_92 : decode cX3_down 92 = .ok (.lload 5, 2) := by decide +kernel
theorem dX3_down_94 : decode cX3_down 94 = .ok (.ldc2_w 78, 3) := by decide +kernel
theorem dX3_down_97 : decode cX3_down 97 = .ok (.lxor, 1) := by decide +kernel
theorem dX3_down_98 : decode cX3_down 98 = .ok (.land, 1) := by decide +kernel
theorem dX3_down_99 : decode cX3_down 99 = .ok (.lor, 1) := by decide +kernel
theorem dX3_down_100 : decode cX3_down 100 = .ok (.goto 11, 3) := by decide +kernel
theorem dX3_down_103 : decode cX3_down 103 = .ok (.lload_n 3, 1) := by decide +kernel
theorem dX3_down_104 : decode cX3_down 104 = .ok (.lload 5, 2) := by decide +kernel
theorem dX3_down_106 : decode cX3_down 106 = .ok (.ldc2_w 78, 3) := by decide +kernel
theorem dX3_down_109 : decode cX3_down 109 = .ok (.lxor, 1) := by decide +kernel
theorem dX3_down_110 : decode cX3_down 110 = .ok (.land, 1) := by decide +kernel
theorem dX3_down_111 : decode cX3_down 111 = .ok (.lreturn, 1) := by decide +kernel
set_option maxRecDepth 20000 in
theorem ggX3_up_X3_sign : GoodIn wsX3_up wsX3_sign := goodIn_r _ [4, 5, 6] (by decide +kernel) (by decide +kernel)
set_option maxRecDepth 20000 in
theorem gX3_up_X3_sign : GoodIn wsX3_up (va_wsS RX3 62 yX3_sign wsX3_sign) := goodIn_app (goodIn_of _ (by decide +kernel)) ggX3_up_X3_sign
set_option maxRecDepth 20000 in
theorem ggX3_up_X3_down : GoodIn wsX3_up wsX3_down := goodIn_r _ [9, 10, 11, 12, 3, 13, 1, 2, 4, 5, 6, 14, 15, 16, 17, 18, 19, 20, 21, 22, 23, 24] (by decide +kernel) (by decide +kernel)
set_option maxRecDepth 20000 in
theorem gX3_up_X3_down : GoodIn wsX3_up (va_wsS RX3 91 yX3_down wsX3_down) := goodIn_app (goodIn_of _ (by decide +kernel)) ggX3_up_X3_down
theorem dX3_up_0 : decode cX3_up 0 = .ok (.lload_n 0, 1) := by decide +kernel
theorem dX3_up_1 : decode cX3_up 1 = .ok (.iload_n 2, 1) := by decide +kernel
theorem dX3_up_2 : decode cX3_up 2 = .ok (.invokestatic 62, 3) := by decide +kernel
theorem dX3_up_5 : decode cX3_up 5 = .ok (.lxor, 1) := by decide +kernel
theorem dX3_up_6 : decode cX3_up 6 = .ok (.iload_n 2, 1) := by decide +kernel
theorem dX3_up_7 : decode cX3_up 7 = .ok (.invokestatic 91, 3) := by decide +kernel
theorem dX3_up_10 : decode cX3_up 10 = .ok (.iload_n 2, 1) := by decide +kernel
theorem dX3_up_11 : decode cX3_up 11 = .ok (.invokestatic 62, 3) := by decide +kernel
theorem dX3_up_14 : decode cX3_up 14 = .ok (.lxor, 1) := by decide +kernel
theorem dX3_up_15 : decode cX3_up 15 = .ok (.lreturn, 1) := by decide +kernel
set_option maxRecDepth 20000 in
theorem ggX3_near_X3_amount : GoodIn wsX3_near wsX3_amount := goodIn_r _ [6, 1, 7, 8, 5, 9, 10, 11] (by decide +kernel) (by decide +kernel)
set_option maxRecDepth 20000 in
theorem gX3_near_X3_amount : GoodIn wsX3_near (va_wsS RX3 80 yX3_amount wsX3_amount) := goodIn_app (goodIn_of _ (by decide +kernel)) ggX3_near_X3_amount
set_option maxRecDepth 20000 in
theorem ggX3_near_X3_sign : GoodIn wsX3_near wsX3_sign := goodIn_r _ [9, 10, 11] (by decide +kernel) (by decide +kernel)
set_option maxRecDepth 20000 in
theorem gX3_near_X3_sign : GoodIn wsX3_near (va_wsS RX3 62 yX3_sign wsX3_sign) := goodIn_app (goodIn_of _ (by decide +kernel)) ggX3_near_X3_sign
set_option maxRecDepth 20000 in
theorem ggX3_near_X3_bias : GoodIn wsX3_near wsX3_bias := goodIn_r _ [14, 15, 16] (by decide +kernel) (by decide +kernel)
set_option maxRecDepth 20000 in
theorem gX3_near_X3_bias : GoodIn wsX3_near (va_wsS RX3 73 yX3_bias wsX3_bias) := goodIn_app (goodIn_of _ (by decide +kernel)) ggX3_near_X3_bias
set_option maxRecDepth 20000 in
theorem ggX3_near_X3_one : GoodIn wsX3_near wsX3_one := goodIn_r _ [19, 12, 13, 5, 14, 15, 16] (by decide +kernel) (by decide +kernel)
set_option maxRecDepth 20000 in
theorem gX3_near_X3_one : GoodIn wsX3_near (va_wsS RX3 84 yX3_one wsX3_one) := goodIn_app (goodIn_of _ (by decide +kernel)) ggX3_near_X3_one
theorem dX3_near_0 : decode cX3_near 0 = .ok (.lload_n 0, 1) := by decide +kernel
theorem dX3_near_1 : decode cX3_near 1 = .ok (.iload_n 2, 1) := by decide +kernel
theorem dX3_near_2 : decode cX3_near 2 = .ok (.invokestatic 80, 3) := by decide +kernel
theorem dX3_near_5 : decode cX3_near 5 = .ok (.lstore_n 3, 1) := by decide +kernel
theorem dX3_near_6 : decode cX3_near 6 = .ok (.lload_n 0, 1) := by decide +kernel
theorem dX3_near_7 : decode cX3_near 7 = .ok (.iload_n 2, 1) := by decide +kernel
theorem dX3_near_8 : decode cX3_near 8 = .ok (.invokestatic 62, 3) := by decide +kernel
theorem dX3_near_11 : decode cX3_near 11 = .ok (.land, 1) := by decide +kernel
theorem dX3_near_12 : decode cX3_near 12 = .ok (.lstore 5, 2) := by decide +kernel
theorem dX3_near_14 : decode cX3_near 14 = .ok (.lload_n 3, 1) := by decide +kernel
theorem dX3_near_15 : decode cX3_near 15 = .ok (.iload_n 2, 1) := by decide +kernel
theorem dX3_near_16 : decode cX3_near 16 = .ok (.invokestatic 73, 3) := by decide +kernel
theorem dX3_near_19 : decode cX3_near 19 = .ok (.iload_n 2, 1) := by decide +kernel
theorem dX3_near_20 : decode cX3_near 20 = .ok (.i2l, 1) := by decide +kernel
theorem dX3_near_21 : decode cX3_near 21 = .ok (.ladd, 1) := by decide +kernel
theorem dX3_near_22 : decode cX3_near 22 = .ok (.iload_n 2, 1) := by decide +kernel
theorem dX3_near_23 : decode cX3_near 23 = .ok (.lshl, 1) := by decide +kernel
theorem dX3_near_24 : decode cX3_near 24 = .ok (.lcmp, 1) := by decide +kernel
theorem dX3_near_25 : decode cX3_near 25 = .ok (.ifCond .lt 5, 3) := by decide +kernel
theorem dX3_near_28 : decode cX3_near 28 = .ok (.lload_n 0, 1) := by decide +kernel
theorem dX3_near_29 : decode cX3_near 29 = .ok (.lreturn, 1) := by decide +kernel
theorem dX3_near_30 : decode cX3_near 30 = .ok (.lload_n 3, 1) := by decide +kernel
theorem dX3_near_31 : decode cX3_near 31 = .ok (.iload_n 2, 1) := by decide +kernel
theorem dX3_near_32 : decode cX3_near 32 = .ok (.invokestatic 84, 3) := by decide +kernel
theorem dX3_near_35 : decode cX3_near 35 = .ok (.lcmp, 1) := by decide +kernel
theorem dX3_near_36 : decode cX3_near 36 = .ok (.ifCond .ge 29, 3) := by decide +kernel
theorem dX3_near_39 : decode cX3_near 39 = .ok (.lload_n 3, 1) := by decide +kernel
theorem dX3_near_40 : decode cX3_near 40 = .ok (.iload_n 2, 1) := by decide +kernel
theorem dX3_near_41 : decode cX3_near 41 = .ok (.invokestatic 84, 3) := by decide +kernel
theorem dX3_near_44 : decode cX3_near 44 = .ok (.lconst 1, 1) := by decide +kernel
theorem dX3_near_45 : decode cX3_near 45 = .ok (.iload_n 2, 1) := by decide +kernel
theorem dX3_near_46 : decode cX3_near 46 = .ok (.lshl, 1) := by decide +kernel
theorem dX3_near_47 : decode cX3_near 47 = .ok (.lsub, 1) := by decide +kernel
theorem dX3_near_48 : decode cX3_near 48 = .ok (.lcmp, 1) := by decide +kernel
theorem dX3_near_49 : decode cX3_near 49 = .ok (.ifCond .le 13, 3) := by decide +kernel
theorem dX3_near_52 : decode cX3_near 52 = .ok (.lload 5, 2) := by decide +kernel
theorem dX3_near_54 : decode cX3_near 54 = .ok (.iload_n 2, 1) := by decide +kernel
theorem dX3_near_55 : decode cX3_near 55 = .ok (.invokestatic 84, 3) := by decide +kernel
theorem dX3_near_58 : decode cX3_near 58 = .ok (.lor, 1) := by decide +kernel
theorem dX3_near_59 : decode cX3_near 59 = .ok (.goto 5, 3) := by decide +kernel
theorem dX3_near_62 : decode cX3_near 62 = .ok (.lload 5, 2) := by decide +kernel
theorem dX3_near_64 : decode cX3_near 64 = .ok (.lreturn, 1) := by decide +kernel
theorem dX3_near_65 : decode cX3_near 65 = .ok (.lconst 1, 1) := by decide +kernel
theorem dX3_near_66 : decode cX3_near 66 = .ok (.iload_n 2, 1) := by decide +kernel
theorem dX3_near_67 : decode cX3_near 67 = .ok (.lload_n 3, 1) := by decide +kernel
theorem dX3_near_68 : decode cX3_near 68 = .ok (.iload_n 2, 1) := by decide +kernel
theorem dX3_near_69 : decode cX3_near 69 = .ok (.lshr, 1) := by decide +kernel
theorem dX3_near_70 : decode cX3_near 70 = .ok (.iload_n 2, 1) := by decide +kernel
theorem dX3_near_71 : decode cX3_near 71 = .ok (.invokestatic 73, 3) := by decide +kernel
theorem dX3_near_74 : decode cX3_near 74 = .ok (.lsub, 1) := by decide +kernel
theorem dX3_near_75 : decode cX3_near 75 = .ok (.l2i, 1) := by decide +kernel
theorem dX3_near_76 : decode cX3_near 76 = .ok (.isub, 1) := by decide +kernel
theorem dX3_near_77 : decode cX3_near 77 = .ok (.lshl, 1) := by decide +kernel
theorem dX3_near_78 : decode cX3_near 78 = .ok (.lconst 1, 1) := by decide +kernel
theorem dX3_near_79 : decode cX3_near 79 = .ok (.lsub, 1) := by decide +kernel
theorem dX3_near_80 : decode cX3_near 80 = .ok (.lstore 7, 2) := by decide +kernel
theorem dX3_near_82 : decode cX3_near 82 = .ok (.lload_n 3, 1) := by decide +kernel
theorem dX3_near_83 : decode cX3_near 83 = .ok (.lload 7, 2) := by decide +kernel
theorem dX3_near_85 : decode cX3_near 85 = .ok (.ldc2_w 78, 3) := by decide +kernel
theorem dX3_near_88 : decode cX3_near 88 = .ok (.lxor, 1) := by decide +kernel
theorem dX3_near_89 : decode cX3_near 89 = .ok (.land, 1) := by decide +kernel
theorem dX3_near_90 : decode cX3_near 90 = .ok (.lstore 9, 2) := by decide +kernel
theorem dX3_near_92 : decode cX3_near 92 = .ok (.ldc2_w 76, 3) := by decide +kernel
theorem dX3_near_95 : decode cX3_near 95 = .ok (.lload_n 3, 1) := by decide +kernel
theorem dX3_near_96 : decode cX3_near 96 = .ok (.lload 7, 2) := by decide +kernel
theorem dX3_near_98 : decode cX3_near 98 = .ok (.land, 1) := by decide +kernel
theorem dX3_near_99 : decode cX3_near 99 = .ok (.lmul, 1) := by decide +kernel
theorem dX3_near_100 : decode cX3_near 100 = .ok (.lstore 11, 2) := by decide +kernel
theorem dX3_near_102 : decode cX3_near 102 = .ok (.lload 9, 2) := by decide +kernel
theorem dX3_near_104 : decode cX3_near 104 = .ok (.lload 7, 2) := by decide +kernel
theorem dX3_near_106 : decode cX3_near 106 = .ok (.lconst 1, 1) := by decide +kernel
theorem dX3_near_107 : decode cX3_near 107 = .ok (.ladd, 1) := by decide +kernel
theorem dX3_near_108 : decode cX3_near 108 = .ok (.land, 1) := by decide +kernel
theorem dX3_near_109 : decode cX3_near 109 = .ok (.lconst 0, 1) := by decide +kernel
theorem dX3_near_110 : decode cX3_near 110 = .ok (.lcmp, 1) := by decide +kernel
theorem dX3_near_111 : decode cX3_near 111 = .ok (.ifCond .eq 7, 3) := by decide +kernel
theorem dX3_near_114 : decode cX3_near 114 = .ok (.iconst 1, 1) := by decide +kernel
theorem dX3_near_115 : decode cX3_near 115 = .ok (.goto 4, 3) := by decide +kernel
theorem dX3_near_118 : decode cX3_near 118 = .ok (.iconst 0, 1) := by decide +kernel
theorem dX3_near_119 : decode cX3_near 119 = .ok (.istore 13, 2) := by decide +kernel
theorem dX3_near_121 : decode cX3_near 121 = .ok (.lload 11, 2) := by decide +kernel
theorem dX3_near_123 : decode cX3_near 123 = .ok (.lload 7, 2) := by decide +kernel
theorem dX3_near_125 : decode cX3_near 125 = .ok (.lconst 1, 1) := by decide +kernel
theorem dX3_near_126 : decode cX3_near 126 = .ok (.ladd, 1) := by decide +kernel
theorem dX3_near_127 : decode cX3_near 127 = .ok (.lcmp, 1) := by decide +kernel
theorem dX3_near_128 : decode cX3_near 128 = .ok (.ifCond .gt 18, 3) := by decide +kernel
theorem dX3_near_131 : decode cX3_near 131 = .ok (.lload 11, 2) := by decide +kernel
theorem dX3_near_133 : decode cX3_near 133 = .ok (.lload 7, 2) := by decide +kernel
theorem dX3_near_135 : decode cX3_near 135 = .ok (.lconst 1, 1) := by decide +kernel
theorem dX3_near_136 : decode cX3_near 136 = .ok (.ladd, 1) := by decide +kernel
theorem dX3_near_137 : decode cX3_near 137 = .ok (.lcmp, 1) := by decide +kernel
theorem dX3_near_138 : decode cX3_near 138 = .ok (.ifCond .ne 12, 3) := by decide +kernel
theorem dX3_near_141 : decode cX3_near 141 = .ok (.iload 13, 2) := by decide +kernel
theorem dX3_near_143 : decode cX3_near 143 = .ok (.ifCond .eq 7, 3) := by decide +kernel
theorem dX3_near_146 : decode cX3_near 146 = .ok (.iconst 1, 1) := by decide +kernel
theorem dX3_near_147 : decode cX3_near 147 = .ok (.goto 4, 3) := by decide +kernel
theorem dX3_near_150 : decode cX3_near 150 = .ok (.iconst 0, 1) := by decide +kernel
theorem dX3_near_151 : decode cX3_near 151 = .ok (.istore 14, 2) := by decide +kernel
theorem dX3_near_153 : decode cX3_near 153 = .ok (.lload 5, 2) := by decide +kernel
theorem dX3_near_155 : decode cX3_near 155 = .ok (.iload 14, 2) := by decide +kernel
theorem dX3_near_157 : decode cX3_near 157 = .ok (.ifCond .eq 13, 3) := by decide +kernel
theorem dX3_near_160 : decode cX3_near 160 = .ok (.lload 9, 2) := by decide +kernel
theorem dX3_near_162 : decode cX3_near 162 = .ok (.lload 7, 2) := by decide +kernel
theorem dX3_near_164 : decode cX3_near 164 = .ok (.ladd, 1) := by decide +kernel
theorem dX3_near_165 : decode cX3_near 165 = .ok (.lconst 1, 1) := by decide +kernel
theorem dX3_near_166 : decode cX3_near 166 = .ok (.ladd, 1) := by decide +kernel
theorem dX3_near_167 : decode cX3_near 167 = .ok (.goto 5, 3) := by decide +kernel
theorem dX3_near_170 : decode cX3_near 170 = .ok (.lload 9, 2) := by decide +kernel
theorem dX3_near_172 : decode cX3_near 172 = .ok (.lor, 1) := by decide +kernel
theorem dX3_near_173 : decode cX3_near 173 = .ok (.lreturn, 1) := by decide +kernel
set_option maxRecDepth 20000 in
theorem ggX3_half_X3_amount : GoodIn wsX3_half wsX3_amount := goodIn_r _ [4, 5, 6, 7, 3, 8, 9, 10] (by decide +kernel) (by decide +kernel)
set_option maxRecDepth 20000 in
theorem gX3_half_X3_amount : GoodIn wsX3_half (va_wsS RX3 80 yX3_amount wsX3_amount) := goodIn_app (goodIn_of _ (by decide +kernel)) ggX3_half_X3_amount
set_option maxRecDepth 20000 in
theorem ggX3_half_X3_endless : GoodIn wsX3_half wsX3_endless := goodIn_r _ [13, 14, 15, 16, 3, 17, 18, 19] (by decide +kernel) (by decide +kernel)
set_option maxRecDepth 20000 in
theorem gX3_half_X3_endless : GoodIn wsX3_half (va_wsS RX3 58 yX3_endless wsX3_endless) := goodIn_app (goodIn_of _ (by decide +kernel)) ggX3_half_X3_endless
set_option maxRecDepth 20000 in
theorem ggX3_half_X3_sign : GoodIn wsX3_half wsX3_sign := goodIn_r _ [8, 9, 10] (by decide +kernel) (by decide +kernel)
set_option maxRecDepth 20000 in
theorem gX3_half_X3_sign : GoodIn wsX3_half (va_wsS RX3 62 yX3_sign wsX3_sign) := goodIn_app (goodIn_of _ (by decide +kernel)) ggX3_half_X3_sign
theorem dX3_half_0 : decode cX3_half 0 = .ok (.lload_n 0, 1) := by decide +kernel
theorem dX3_half_1 : decode cX3_half 1 = .ok (.iload_n 2, 1) := by decide +kernel
theorem dX3_half_2 : decode cX3_half 2 = .ok (.invokestatic 80, 3) := by decide +kernel
theorem dX3_half_5 : decode cX3_half 5 = .ok (.lstore_n 3, 1) := by decide +kernel
theorem dX3_half_6 : decode cX3_half 6 = .ok (.lload_n 3, 1) := by decide +kernel
theorem dX3_half_7 : decode cX3_half 7 = .ok (.iload_n 2, 1) := by decide +kernel
theorem dX3_half_8 : decode cX3_half 8 = .ok (.invokestatic 58, 3) := by decide +kernel
theorem dX3_half_11 : decode cX3_half 11 = .ok (.lcmp, 1) := by decide +kernel
theorem dX3_half_12 : decode cX3_half 12 = .ok (.ifCond .ne 5, 3) := by decide +kernel
theorem dX3_half_15 : decode cX3_half 15 = .ok (.lload_n 0, 1) := by decide +kernel
theorem dX3_half_16 : decode cX3_half 16 = .ok (.lreturn, 1) := by decide +kernel
theorem dX3_half_17 : decode cX3_half 17 = .ok (.lload_n 3, 1) := by decide +kernel
theorem dX3_half_18 : decode cX3_half 18 = .ok (.iload_n 2, 1) := by decide +kernel
theorem dX3_half_19 : decode cX3_half 19 = .ok (.lshr, 1) := by decide +kernel
theorem dX3_half_20 : decode cX3_half 20 = .ok (.lconst 1, 1) := by decide +kernel
theorem dX3_half_21 : decode cX3_half 21 = .ok (.lcmp, 1) := by decide +kernel
theorem dX3_half_22 : decode cX3_half 22 = .ok (.ifCond .le 9, 3) := by decide +kernel
theorem dX3_half_25 : decode cX3_half 25 = .ok (.lload_n 0, 1) := by decide +kernel
theorem dX3_half_26 : decode cX3_half 26 = .ok (.lconst 1, 1) := by decide +kernel
theorem dX3_half_27 : decode cX3_half 27 = .ok (.iload_n 2, 1) := by decide +kernel
theorem dX3_half_28 : decode cX3_half 28 = .ok (.lshl, 1) := by decide +kernel
theorem dX3_half_29 : decode cX3_half 29 = .ok (.lsub, 1) := by decide +kernel
theorem dX3_half_30 : decode cX3_half 30 = .ok (.lreturn, 1) := by decide +kernel
theorem dX3_half_31 : decode cX3_half 31 = .ok (.lload_n 3, 1) := by decide +kernel
theorem dX3_half_32 : decode cX3_half 32 = .ok (.iconst 1, 1) := by decide +kernel
theorem dX3_half_33 : decode cX3_half 33 = .ok (.lshr, 1) := by decide +kernel
theorem dX3_half_34 : decode cX3_half 34 = .ok (.lstore 5, 2) := by decide +kernel
theorem dX3_half_36 : decode cX3_half 36 = .ok (.lload_n 0, 1) := by decide +kernel
theorem dX3_half_37 : decode cX3_half 37 = .ok (.iload_n 2, 1) := by decide +kernel
theorem dX3_half_38 : decode cX3_half 38 = .ok (.invokestatic 62, 3) := by decide +kernel
theorem dX3_half_41 : decode cX3_half 41 = .ok (.land, 1) := by decide +kernel
theorem dX3_half_42 : decode cX3_half 42 = .ok (.lload 5, 2) := by decide +kernel
theorem dX3_half_44 : decode cX3_half 44 = .ok (.lload_n 3, 1) := by decide +kernel
theorem dX3_half_45 : decode cX3_half 45 = .ok (.lload 5, 2) := by decide +kernel
theorem dX3_half_47 : decode cX3_half 47 = .ok (.land, 1) := by decide +kernel
theorem dX3_half_48 : decode cX3_half 48 = .ok (.lconst 1, 1) := by decide +kernel
theorem dX3_half_49 : decode cX3_half 49 = .ok (.land, 1) := by decide +kernel
theorem dX3_half_50 : decode cX3_half 50 = .ok (.ladd, 1) := by decide +kernel
theorem dX3_half_51 : decode cX3_half 51 = .ok (.lor, 1) := by decide +kernel
theorem dX3_half_52 : decode cX3_half 52 = .ok (.lreturn, 1) := by decide +kernel
set_option maxRecDepth 20000 in
theorem ggX3_twice_X3_amount : GoodIn wsX3_twice wsX3_amount := goodIn_r _ [5, 6, 7, 8, 4, 9, 10, 11] (by decide +kernel) (by decide +kernel)
set_option maxRecDepth 20000 in
theorem gX3_twice_X3_amount : GoodIn wsX3_twice (va_wsS RX3 80 yX3_amount wsX3_amount) := goodIn_app (goodIn_of _ (by decide +kernel)) ggX3_twice_X3_amount
set_option maxRecDepth 20000 in
theorem ggX3_twice_X3_bias : GoodIn wsX3_twice wsX3_bias := goodIn_r _ [14, 15, 16] (by decide +kernel) (by decide +kernel)
set_option maxRecDepth 20000 in
theorem gX3_twice_X3_bias : GoodIn wsX3_twice (va_wsS RX3 73 yX3_bias wsX3_bias) := goodIn_app (goodIn_of _ (by decide +kernel)) ggX3_twice_X3_bias
set_option maxRecDepth 20000 in
theorem ggX3_twice_X3_sign : GoodIn wsX3_twice wsX3_sign := goodIn_r _ [9, 10, 11] (by decide +kernel) (by decide +kernel)
set_option maxRecDepth 20000 in
theorem gX3_twice_X3_sign : GoodIn wsX3_twice (va_wsS RX3 62 yX3_sign wsX3_sign) := goodIn_app (goodIn_of _ (by decide +kernel)) ggX3_twice_X3_sign
set_option maxRecDepth 20000 in
theorem ggX3_twice_X3_endless : GoodIn wsX3_twice wsX3_endless := goodIn_r _ [19, 1, 12, 13, 4, 14, 15, 16] (by decide +kernel) (by decide +kernel)
set_option maxRecDepth 20000 in
theorem gX3_twice_X3_endless : GoodIn wsX3_twice (va_wsS RX3 58 yX3_endless wsX3_endless) := goodIn_app (goodIn_of _ (by decide +kernel)) ggX3_twice_X3_endless
theorem dX3_twice_0 : decode cX3_twice 0 = .ok (.lload_n 0, 1) := by decide +kernel
theorem dX3_twice_1 : decode cX3_twice 1 = .ok (.iload_n 2, 1) := by decide +kernel
theorem dX3_twice_2 : decode cX3_twice 2 = .ok (.invokestatic 80, 3) := by decide +kernel
theorem dX3_twice_5 : decode cX3_twice 5 = .ok (.lstore_n 3, 1) := by decide +kernel
theorem dX3_twice_6 : decode cX3_twice 6 = .ok (.lload_n 3, 1) := by decide +kernel
theorem dX3_twice_7 : decode cX3_twice 7 = .ok (.iload_n 2, 1) := by decide +kernel
theorem dX3_twice_8 : decode cX3_twice 8 = .ok (.lshr, 1) := by decide +kernel
theorem dX3_twice_9 : decode cX3_twice 9 = .ok (.ldc2_w 76, 3) := by decide +kernel
theorem dX3_twice_12 : decode cX3_twice 12 = .ok (.iload_n 2, 1) := by decide +kernel
theorem dX3_twice_13 : decode cX3_twice 13 = .ok (.invokestatic 73, 3) := by decide +kernel
theorem dX3_twice_16 : decode cX3_twice 16 = .ok (.lmul, 1) := by decide +kernel
theorem dX3_twice_17 : decode cX3_twice 17 = .ok (.lcmp, 1) := by decide +kernel
theorem dX3_twice_18 : decode cX3_twice 18 = .ok (.ifCond .lt 15, 3) := by decide +kernel
theorem dX3_twice_21 : decode cX3_twice 21 = .ok (.lload_n 0, 1) := by decide +kernel
theorem dX3_twice_22 : decode cX3_twice 22 = .ok (.iload_n 2, 1) := by decide +kernel
theorem dX3_twice_23 : decode cX3_twice 23 = .ok (.invokestatic 62, 3) := by decide +kernel
theorem dX3_twice_26 : decode cX3_twice 26 = .ok (.land, 1) := by decide +kernel
theorem dX3_twice_27 : decode cX3_twice 27 = .ok (.iload_n 2, 1) := by decide +kernel
theorem dX3_twice_28 : decode cX3_twice 28 = .ok (.invokestatic 58, 3) := by decide +kernel
theorem dX3_twice_31 : decode cX3_twice 31 = .ok (.lor, 1) := by decide +kernel
theorem dX3_twice_32 : decode cX3_twice 32 = .ok (.lreturn, 1) := by decide +kernel
theorem dX3_twice_33 : decode cX3_twice 33 = .ok (.lload_n 0, 1) := by decide +kernel
theorem dX3_twice_34 : decode cX3_twice 34 = .ok (.iload_n 2, 1) := by decide +kernel
theorem dX3_twice_35 : decode cX3_twice 35 = .ok (.invokestatic 62, 3) := by decide +kernel
theorem dX3_twice_38 : decode cX3_twice 38 = .ok (.land, 1) := by decide +kernel
theorem dX3_twice_39 : decode cX3_twice 39 = .ok (.lload_n 3, 1) := by decide +kernel
theorem dX3_twice_40 : decode cX3_twice 40 = .ok (.iload_n 2, 1) := by decide +kernel
theorem dX3_twice_41 : decode cX3_twice 41 = .ok (.lshr, 1) := by decide +kernel
theorem dX3_twice_42 : decode cX3_twice 42 = .ok (.lconst 0, 1) := by decide +kernel
theorem dX3_twice_43 : decode cX3_twice 43 = .ok (.lcmp, 1) := by decide +kernel
theorem dX3_twice_44 : decode cX3_twice 44 = .ok (.ifCond .ne 11, 3) := by decide +kernel
theorem dX3_twice_47 : decode cX3_twice 47 = .ok (.ldc2_w 76, 3) := by decide +kernel
theorem dX3_twice_50 : decode cX3_twice 50 = .ok (.lload_n 3, 1) := by decide +kernel
theorem dX3_twice_51 : decode cX3_twice 51 = .ok (.lmul, 1) := by decide +kernel
theorem dX3_twice_52 : decode cX3_twice 52 = .ok (.goto 8, 3) := by decide +kernel
theorem dX3_twice_55 : decode cX3_twice 55 = .ok (.lload_n 3, 1) := by decide +kernel
theorem dX3_twice_56 : decode cX3_twice 56 = .ok (.lconst 1, 1) := by decide +kernel
theorem dX3_twice_57 : decode cX3_twice 57 = .ok (.iload_n 2, 1) := by decide +kernel
theorem dX3_twice_58 : decode cX3_twice 58 = .ok (.lshl, 1) := by decide +kernel
theorem dX3_twice_59 : decode cX3_twice 59 = .ok (.ladd, 1) := by decide +kernel
theorem dX3_twice_60 : decode cX3_twice 60 = .ok (.lor, 1) := by decide +kernel
theorem dX3_twice_61 : decode cX3_twice 61 = .ok (.lreturn, 1) := by decide +kernel
theorem dX3_place_0 : decode cX3_place 0 = .ok (.lload_n 0, 1) := by decide +kernel
theorem dX3_place_1 : decode cX3_place 1 = .ok (.lconst 0, 1) := by decide +kernel
theorem dX3_place_2 : decode cX3_place 2 = .ok (.lcmp, 1) := by decide +kernel
theorem dX3_place_3 : decode cX3_place 3 = .ok (.ifCond .ge 11, 3) := by decide +kernel
theorem dX3_place_6 : decode cX3_place 6 = .ok (.lload_n 0, 1) := by decide +kernel
theorem dX3_place_7 : decode cX3_place 7 = .ok (.ldc2_w 94, 3) := by decide +kernel
theorem dX3_place_10 : decode cX3_place 10 = .ok (.lxor, 1) := by decide +kernel
theorem dX3_place_11 : decode cX3_place 11 = .ok (.goto 4, 3) := by decide +kernel
theorem dX3_place_14 : decode cX3_place 14 = .ok (.lload_n 0, 1) := by decide +kernel
theorem dX3_place_15 : decode cX3_place 15 = .ok (.lreturn, 1) := by decide +kernel
theorem dX3_place4_0 : decode cX3_place4 0 = .ok (.iload_n 0, 1) := by decide +kernel
theorem dX3_place4_1 : decode cX3_place4 1 = .ok (.ifCond .ge 10, 3) := by decide +kernel
theorem dX3_place4_4 : decode cX3_place4 4 = .ok (.iload_n 0, 1) := by decide +kernel
theorem dX3_place4_5 : decode cX3_place4 5 = .ok (.ldc 96, 2) := by decide +kernel
theorem dX3_place4_7 : decode cX3_place4 7 = .ok (.ixor, 1) := by decide +kernel
theorem dX3_place4_8 : decode cX3_place4 8 = .ok (.goto 4, 3) := by decide +kernel
theorem dX3_place4_11 : decode cX3_place4 11 = .ok (.iload_n 0, 1) := by decide +kernel
theorem dX3_place4_12 : decode cX3_place4 12 = .ok (.ireturn, 1) := by decide +kernel
set_option maxRecDepth 20000 in
theorem ggX3_greater_X3_place : GoodIn wsX3_greater wsX3_place := goodIn_r _ [4, 5] (by decide +kernel) (by decide +kernel)
set_option maxRecDepth 20000 in
theorem gX3_greater_X3_place : GoodIn wsX3_greater (va_wsS RX3 97 yX3_place wsX3_place) := goodIn_app (goodIn_of _ (by decide +kernel)) ggX3_greater_X3_place
theorem dX3_greater_0 : decode cX3_greater 0 = .ok (.lload_n 0, 1) := by decide +kernel
theorem dX3_greater_1 : decode cX3_greater 1 = .ok (.invokestatic 97, 3) := by decide +kernel
theorem dX3_greater_4 : decode cX3_greater 4 = .ok (.lload_n 2, 1) := by decide +kernel
theorem dX3_greater_5 : decode cX3_greater 5 = .ok (.invokestatic 97, 3) := by decide +kernel
theorem dX3_greater_8 : decode cX3_greater 8 = .ok (.lcmp, 1) := by decide +kernel
theorem dX3_greater_9 : decode cX3_greater 9 = .ok (.ifCond .lt 7, 3) := by decide +kernel
theorem dX3_greater_12 : decode cX3_greater 12 = .ok (.lload_n 0, 1) := by decide +kernel
theorem dX3_greater_13 : decode cX3_greater 13 = .ok (.goto 4, 3) := by decide +kernel
theorem dX3_greater_16 : decode cX3_greater 16 = .ok (.lload_n 2, 1) := by decide +kernel
theorem dX3_greater_17 : decode cX3_greater 17 = .ok (.lreturn, 1) := by decide +kernel
set_option maxRecDepth 20000 in
theorem ggX3_lesser_X3_place : GoodIn wsX3_lesser wsX3_place := goodIn_r _ [4, 5] (by decide +kernel) (by decide +kernel)
set_option maxRecDepth 20000 in
theorem gX3_lesser_X3_place : GoodIn wsX3_lesser (va_wsS RX3 97 yX3_place wsX3_place) := goodIn_app (goodIn_of _ (by decide +kernel)) ggX3_lesser_X3_place
theorem dX3_lesser_0 : decode cX3_lesser 0 = .ok (.lload_n 0, 1) := by decide +kernel
theorem dX3_lesser_1 : decode cX3_lesser 1 = .ok (.invokestatic 97, 3) := by decide +kernel
theorem dX3_lesser_4 : decode cX3_lesser 4 = .ok (.lload_n 2, 1) := by decide +kernel
theorem dX3_lesser_5 : decode cX3_lesser 5 = .ok (.invokestatic 97, 3) := by decide +kernel
theorem dX3_lesser_8 : decode cX3_lesser 8 = .ok (.lcmp, 1) := by decide +kernel
theorem dX3_lesser_9 : decode cX3_lesser 9 = .ok (.ifCond .gt 7, 3) := by decide +kernel
theorem dX3_lesser_12 : decode cX3_lesser 12 = .ok (.lload_n 0, 1) := by decide +kernel
theorem dX3_lesser_13 : decode cX3_lesser 13 = .ok (.goto 4, 3) := by decide +kernel
theorem dX3_lesser_16 : decode cX3_lesser 16 = .ok (.lload_n 2, 1) := by decide +kernel
theorem dX3_lesser_17 : decode cX3_lesser 17 = .ok (.lreturn, 1) := by decide +kernel
set_option maxRecDepth 20000 in
theorem ggX3_greater4_X3_place4 : GoodIn wsX3_greater4 wsX3_place4 := goodIn_r _ [4, 5] (by decide +kernel) (by decide +kernel)
set_option maxRecDepth 20000 in
theorem gX3_greater4_X3_place4 : GoodIn wsX3_greater4 (va_wsS RX3 101 yX3_place4 wsX3_place4) := goodIn_app (goodIn_of _ (by decide +kernel)) ggX3_greater4_X3_place4
theorem dX3_greater4_0 : decode cX3_greater4 0 = .ok (.iload_n 0, 1) := by decide +kernel
theorem dX3_greater4_1 : decode cX3_greater4 1 = .ok (.invokestatic 101, 3) := by decide +kernel
theorem dX3_greater4_4 : decode cX3_greater4 4 = .ok (.iload_n 1, 1) := by decide +kernel
theorem dX3_greater4_5 : decode cX3_greater4 5 = .ok (.invokestatic 101, 3) := by decide +kernel
theorem dX3_greater4_8 : decode cX3_greater4 8 = .ok (.if_icmp .lt 7, 3) := by decide +kernel
theorem dX3_greater4_11 : decode cX3_greater4 11 = .ok (.iload_n 0, 1) := by decide +kernel
theorem dX3_greater4_12 : decode cX3_greater4 12 = .ok (.goto 4, 3) := by decide +kernel
theorem dX3_greater4_15 : decode cX3_greater4 15 = .ok (.iload_n 1, 1) := by decide +kernel
theorem dX3_greater4_16 : decode cX3_greater4 16 = .ok (.ireturn, 1) := by decide +kernel
set_option maxRecDepth 20000 in
theorem ggX3_lesser4_X3_place4 : GoodIn wsX3_lesser4 wsX3_place4 := goodIn_r _ [4, 5] (by decide +kernel) (by decide +kernel)
set_option maxRecDepth 20000 in
theorem gX3_lesser4_X3_place4 : GoodIn wsX3_lesser4 (va_wsS RX3 101 yX3_place4 wsX3_place4) := goodIn_app (goodIn_of _ (by decide +kernel)) ggX3_lesser4_X3_place4
theorem dX3_lesser4_0 : decode cX3_lesser4 0 = .ok (.iload_n 0, 1) := by decide +kernel
theorem dX3_lesser4_1 : decode cX3_lesser4 1 = .ok (.invokestatic 101, 3) := by decide +kernel
theorem dX3_lesser4_4 : decode cX3_lesser4 4 = .ok (.iload_n 1, 1) := by decide +kernel
theorem dX3_lesser4_5 : decode cX3_lesser4 5 = .ok (.invokestatic 101, 3) := by decide +kernel
theorem dX3_lesser4_8 : decode cX3_lesser4 8 = .ok (.if_icmp .gt 7, 3) := by decide +kernel
theorem dX3_lesser4_11 : decode cX3_lesser4 11 = .ok (.iload_n 0, 1) := by decide +kernel
theorem dX3_lesser4_12 : decode cX3_lesser4 12 = .ok (.goto 4, 3) := by decide +kernel
theorem dX3_lesser4_15 : decode cX3_lesser4 15 = .ok (.iload_n 1, 1) := by decide +kernel
theorem dX3_lesser4_16 : decode cX3_lesser4 16 = .ok (.ireturn, 1) := by decide +kernel
theorem dX3_thin_0 : decode cX3_thin 0 = .ok (.iload_n 0, 1) := by decide +kernel
theorem dX3_thin_1 : decode cX3_thin 1 = .ok (.i2l, 1) := by decide +kernel
theorem dX3_thin_2 : decode cX3_thin 2 = .ok (.ldc2_w 105, 3) := by decide +kernel
theorem dX3_thin_5 : decode cX3_thin 5 = .ok (.land, 1) := by decide +kernel
theorem dX3_thin_6 : decode cX3_thin 6 = .ok (.lreturn, 1) := by decide +kernel
theorem dX3_amount4_0 : decode cX3_amount4 0 = .ok (.iload_n 0, 1) := by decide +kernel
theorem dX3_amount4_1 : decode cX3_amount4 1 = .ok (.ldc 96, 2) := by decide +kernel
theorem dX3_amount4_3 : decode cX3_amount4 3 = .ok (.iand, 1) := by decide +kernel
theorem dX3_amount4_4 : decode cX3_amount4 4 = .ok (.ireturn, 1) := by decide +kernel
theorem dX3_isThread_0 : decode cX3_isThread 0 = .ok (.iload_n 0, 1) := by decide +kernel
theorem dX3_isThread_1 : decode cX3_isThread 1 = .ok (.ifCond .lt 13, 3) := by decide +kernel
theorem dX3_isThread_4 : decode cX3_isThread 4 = .ok (.iload_n 0, 1) := by decide +kernel
theorem dX3_isThread_5 : decode cX3_isThread 5 = .ok (.bipush 8, 2) := by decide +kernel
theorem dX3_isThread_7 : decode cX3_isThread 7 = .ok (.if_icmp .ge 7, 3) := by decide +kernel
theorem dX3_isThread_10 : decode cX3_isThread 10 = .ok (.iconst 1, 1) := by decide +kernel
theorem dX3_isThread_11 : decode cX3_isThread 11 = .ok (.goto 4, 3) := by decide +kernel
theorem dX3_isThread_14 : decode cX3_isThread 14 = .ok (.iconst 0, 1) := by decide +kernel
theorem dX3_isThread_15 : decode cX3_isThread 15 = .ok (.ireturn, 1) := by decide +kernel
set_option maxRecDepth 20000 in
theorem ggX3_lack_X3_isThread : GoodIn wsX3_lack wsX3_isThread := goodIn_r _ [5] (by decide +kernel) (by decide +kernel)
set_option maxRecDepth 20000 in
theorem gX3_lack_X3_isThread : GoodIn wsX3_lack (va_wsS RX3 107 yX3_isThread wsX3_isThread) := goodIn_app (goodIn_of _ (by decide +kernel)) ggX3_lack_X3_isThread
theorem dX3_lack_0 : decode cX3_lack 0 = .ok (.iload_n 1, 1) := by decide +kernel
theorem dX3_lack_1 : decode cX3_lack 1 = .ok (.invokestatic 107, 3) := by decide +kernel
theorem dX3_lack_4 : decode cX3_lack 4 = .ok (.ifCond .ne 7, 3) := by decide +kernel
theorem dX3_lack_7 : decode cX3_lack 7 = .ok (.iconst 1, 1) := by decide +kernel
theorem dX3_lack_8 : decode cX3_lack 8 = .ok (.goto 17, 3) := by decide +kernel
theorem dX3_lack_11 : decode cX3_lack 11 = .ok (.aload_n 0, 1) := by decide +kernel
theorem dX3_lack_12 : decode cX3_lack 12 = .ok (.getfield 7, 3) := by decide +kernel
theorem dX3_lack_15 : decode cX3_lack 15 = .ok (.iload_n 1, 1) := by decide +kernel
theorem dX3_lack_16 : decode cX3_lack 16 = .ok (.baload, 1) := by decide +kernel
theorem dX3_lack_17 : decode cX3_lack 17 = .ok (.ifCond .eq 7, 3) := by decide +kernel
theorem dX3_lack_20 : decode cX3_lack 20 = .ok (.iconst 2, 1) := by decide +kernel
theorem dX3_lack_21 : decode cX3_lack 21 = .ok (.goto 4, 3) := by decide +kernel
theorem dX3_lack_24 : decode cX3_lack 24 = .ok (.iconst 0, 1) := by decide +kernel
theorem dX3_lack_25 : decode cX3_lack 25 = .ok (.ireturn, 1) := by decide +kernel
theorem dX3_isReal_0 : decode cX3_isReal 0 = .ok (.iload_n 0, 1) := by decide +kernel
theorem dX3_isReal_1 : decode cX3_isReal 1 = .ok (.ifCond .eq 18, 3) := by decide +kernel
theorem dX3_isReal_4 : decode cX3_isReal 4 = .ok (.iload_n 0, 1) := by decide +kernel
theorem dX3_isReal_5 : decode cX3_isReal 5 = .ok (.iconst 1, 1) := by decide +kernel
theorem dX3_isReal_6 : decode cX3_isReal 6 = .ok (.if_icmp .eq 13, 3) := by decide +kernel
theorem dX3_isReal_9 : decode cX3_isReal 9 = .ok (.iload_n 0, 1) := by decide +kernel
theorem dX3_isReal_10 : decode cX3_isReal 10 = .ok (.iconst 4, 1) := by decide +kernel
theorem dX3_isReal_11 : decode cX3_isReal 11 = .ok (.if_icmp .eq 8, 3) := by decide +kernel
theorem dX3_isReal_14 : decode cX3_isReal 14 = .ok (.iload_n 0, 1) := by decide +kernel
theorem dX3_isReal_15 : decode cX3_isReal 15 = .ok (.iconst 5, 1) := by decide +kernel
theorem dX3_isReal_16 : decode cX3_isReal 16 = .ok (.if_icmp .ne 7, 3) := by decide +kernel
theorem dX3_isReal_19 : decode cX3_isReal 19 = .ok (.iconst 1, 1) := by decide +kernel
theorem dX3_isReal_20 : decode cX3_isReal 20 = .ok (.goto 4, 3) := by decide +kernel
theorem dX3_isReal_23 : decode cX3_isReal 23 = .ok (.iconst 0, 1) := by decide +kernel
theorem dX3_isReal_24 : decode cX3_isReal 24 = .ok (.ireturn, 1) := by decide +kernel
set_option maxRecDepth 20000 in
theorem ggX3_set_X3_lack : GoodIn wsX3_set wsX3_lack := goodIn_r _ [12, 13, 14, 15, 11, 16, 45, 46, 47, 48, 49, 50, 51, 52, 53, 54, 55, 56, 57, 58, 59, 60, 61, 62, 63, 64, 65] (by decide +kernel) (by decide +kernel)
set_option maxRecDepth 20000 in
theorem gX3_set_X3_lack : GoodIn wsX3_set (wsV RX3 111 RX3 yX3_lack wsX3_lack) := goodIn_app (goodIn_of _ (by decide +kernel)) ggX3_set_X3_lack
set_option maxRecDepth 20000 in
theorem ggX3_set_X3_isReal : GoodIn wsX3_set wsX3_isReal := goodIn_r _ [19] (by decide +kernel) (by decide +kernel)
set_option maxRecDepth 20000 in
theorem gX3_set_X3_isReal : GoodIn wsX3_set (va_wsS RX3 118 yX3_isReal wsX3_isReal) := goodIn_app (goodIn_of _ (by decide +kernel)) ggX3_set_X3_isReal
set_option maxRecDepth 20000 in
theorem ggX3_set_X3_thin : GoodIn wsX3_set wsX3_thin := goodIn_r _ [22, 23] (by decide +kernel) (by decide +kernel)
set_option maxRecDepth 20000 in
theorem gX3_set_X3_thin : GoodIn wsX3_set (va_wsS RX3 121 yX3_thin wsX3_thin) := goodIn_app (goodIn_of _ (by decide +kernel)) ggX3_set_X3_thin
set_option maxRecDepth 20000 in
theorem ggX3_set_X3_isNumber : GoodIn wsX3_set wsX3_isNumber := goodIn_r _ [26, 27, 28, 11, 29, 30, 31, 32, 33, 34, 35, 36, 37, 38, 39, 40, 41, 42, 43, 44] (by decide +kernel) (by decide +kernel)
set_option maxRecDepth 20000 in
theorem gX3_set_X3_isNumber : GoodIn wsX3_set (va_wsS RX3 124 yX3_isNumber wsX3_isNumber) := goodIn_app (goodIn_of _ (by decide +kernel)) ggX3_set_X3_isNumber
theorem dX3_set_0 : decode cX3_set 0 = .ok (.aload_n 0, 1) := by decide +kernel
theorem dX3_set_1 : decode cX3_set 1 = .ok (.iload_n 2, 1) := by decide +kernel
theorem dX3_set_2 : decode cX3_set 2 = .ok (.ifCond .lt 8, 3) := by decide +kernel
theorem dX3_set_5 : decode cX3_set 5 = .ok (.iload_n 2, 1) := by decide +kernel
theorem dX3_set_6 : decode cX3_set 6 = .ok (.iconst 5, 1) := by decide +kernel
theorem dX3_set_7 : decode cX3_set 7 = .ok (.if_icmp .le 7, 3) := by decide +kernel
theorem dX3_set_10 : decode cX3_set 10 = .ok (.iconst 5, 1) := by decide +kernel
theorem dX3_set_11 : decode cX3_set 11 = .ok (.goto 8, 3) := by decide +kernel
theorem dX3_set_14 : decode cX3_set 14 = .ok (.aload_n 0, 1) := by decide +kernel
theorem dX3_set_15 : decode cX3_set 15 = .ok (.iload_n 1, 1) := by decide +kernel
theorem dX3_set_16 : decode cX3_set 16 = .ok (.invokevirtual 111, 3) := by decide +kernel
theorem dX3_set_19 : decode cX3_set 19 = .ok (.putfield 114, 3) := by decide +kernel
theorem dX3_set_22 : decode cX3_set 22 = .ok (.aload_n 0, 1) := by decide +kernel
theorem dX3_set_23 : decode cX3_set 23 = .ok (.getfield 114, 3) := by decide +kernel
theorem dX3_set_26 : decode cX3_set 26 = .ok (.ifCond .ne 48, 3) := by decide +kernel
theorem dX3_set_29 : decode cX3_set 29 = .ok (.iload_n 2, 1) := by decide +kernel
theorem dX3_set_30 : decode cX3_set 30 = .ok (.invokestatic 118, 3) := by decide +kernel
theorem dX3_set_33 : decode cX3_set 33 = .ok (.ifCond .eq 41, 3) := by decide +kernel
theorem dX3_set_36 : decode cX3_set 36 = .ok (.iload_n 2, 1) := by decide +kernel
theorem dX3_set_37 : decode cX3_set 37 = .ok (.iconst 1, 1) := by decide +kernel
theorem dX3_set_38 : decode cX3_set 38 = .ok (.if_icmp .ne 11, 3) := by decide +kernel
theorem dX3_set_41 : decode cX3_set 41 = .ok (.lload_n 3, 1) := by decide +kernel
theorem dX3_set_42 : decode cX3_set 42 = .ok (.l2i, 1) := by decide +kernel
theorem dX3_set_43 : decode cX3_set 43 = .ok (.invokestatic 121, 3) := by decide +kernel
theorem dX3_set_46 : decode cX3_set 46 = .ok (.goto 4, 3) := by decide +kernel
theorem dX3_set_49 : decode cX3_set 49 = .ok (.lload_n 3, 1) := by decide +kernel
theorem dX3_set_50 : decode cX3_set 50 = .ok (.iload_n 2, 1) := by decide +kernel
theorem dX3_set_51 : decode cX3_set 51 = .ok (.iconst 1, 1) := by decide +kernel
theorem dX3_set_52 : decode cX3_set 52 = .ok (.if_icmp .ne 8, 3) := by decide +kernel
theorem dX3_set_55 : decode cX3_set 55 = .ok (.bipush 23, 2) := by decide +kernel
theorem dX3_set_57 : decode cX3_set 57 = .ok (.goto 5, 3) := by decide +kernel
theorem dX3_set_60 : decode cX3_set 60 = .ok (.bipush 52, 2) := by decide +kernel
theorem dX3_set_62 : decode cX3_set 62 = .ok (.invokestatic 124, 3) := by decide +kernel
theorem dX3_set_65 : decode cX3_set 65 = .ok (.ifCond .ne 9, 3) := by decide +kernel
theorem dX3_set_68 : decode cX3_set 68 = .ok (.aload_n 0, 1) := by decide +kernel
theorem dX3_set_69 : decode cX3_set 69 = .ok (.bipush 6, 2) := by decide +kernel
theorem dX3_set_71 : decode cX3_set 71 = .ok (.putfield 114, 3) := by decide +kernel
theorem dX3_set_74 : decode cX3_set 74 = .ok (.aload_n 0, 1) := by decide +kernel
theorem dX3_set_75 : decode cX3_set 75 = .ok (.getfield 114, 3) := by decide +kernel
theorem dX3_set_78 : decode cX3_set 78 = .ok (.ifCond .le 8, 3) := by decide +kernel
theorem dX3_set_81 : decode cX3_set 81 = .ok (.aload_n 0, 1) := by decide +kernel
theorem dX3_set_82 : decode cX3_set 82 = .ok (.getfield 114, 3) := by decide +kernel
theorem dX3_set_85 : decode cX3_set 85 = .ok (.ireturn, 1) := by decide +kernel
theorem dX3_set_86 : decode cX3_set 86 = .ok (.iload_n 2, 1) := by decide +kernel
theorem dX3_set_87 : decode cX3_set 87 = .ok (.tableswitch 85 0 4 #[33, 43, 54, 65, 75], 33) := by decide +kernel
theorem dX3_set_120 : decode cX3_set 120 = .ok (.aload_n 0, 1) := by decide +kernel
theorem dX3_set_121 : decode cX3_set 121 = .ok (.getfield 13, 3) := by decide +kernel
theorem dX3_set_124 : decode cX3_set 124 = .ok (.iload_n 1, 1) := by decide +kernel
theorem dX3_set_125 : decode cX3_set 125 = .ok (.lload_n 3, 1) := by decide +kernel
theorem dX3_set_126 : decode cX3_set 126 = .ok (.lastore, 1) := by decide +kernel
theorem dX3_set_127 : decode cX3_set 127 = .ok (.goto 52, 3) := by decide +kernel
theorem dX3_set_130 : decode cX3_set 130 = .ok (.aload_n 0, 1) := by decide +kernel
theorem dX3_set_131 : decode cX3_set 131 = .ok (.getfield 17, 3) := by decide +kernel
theorem dX3_set_134 : decode cX3_set 134 = .ok (.iload_n 1, 1) := by decide +kernel
theorem dX3_set_135 : decode cX3_set 135 = .ok (.lload_n 3, 1) := by decide +kernel
theorem dX3_set_136 : decode cX3_set 136 = .ok (.l2i, 1) := by decide +kernel
theorem dX3_set_137 : decode cX3_set 137 = .ok (.iastore, 1) := by decide +kernel
theorem dX3_set_138 : decode cX3_set 138 = .ok (.goto 41, 3) := by decide +kernel
theorem dX3_set_141 : decode cX3_set 141 = .ok (.aload_n 0, 1) := by decide +kernel
theorem dX3_set_142 : decode cX3_set 142 = .ok (.getfield 21, 3) := by decide +kernel
theorem dX3_set_145 : decode cX3_set 145 = .ok (.iload_n 1, 1) := by decide +kernel
theorem dX3_set_146 : decode cX3_set 146 = .ok (.lload_n 3, 1) := by decide +kernel
theorem dX3_set_147 : decode cX3_set 147 = .ok (.l2i, 1) := by decide +kernel
theorem dX3_set_148 : decode cX3_set 148 = .ok (.iastore, 1) := by decide +kernel
theorem dX3_set_149 : decode cX3_set 149 = .ok (.goto 30, 3) := by decide +kernel
theorem dX3_set_152 : decode cX3_set 152 = .ok (.aload_n 0, 1) := by decide +kernel
theorem dX3_set_153 : decode cX3_set 153 = .ok (.getfield 24, 3) := by decide +kernel
theorem dX3_set_156 : decode cX3_set 156 = .ok (.iload_n 1, 1) := by decide +kernel
theorem dX3_set_157 : decode cX3_set 157 = .ok (.lload_n 3, 1) := by decide +kernel
theorem dX3_set_158 : decode cX3_set 158 = .ok (.lastore, 1) := by decide +kernel
theorem dX3_set_159 : decode cX3_set 159 = .ok (.goto 20, 3) := by decide +kernel
theorem dX3_set_162 : decode cX3_set 162 = .ok (.aload_n 0, 1) := by decide +kernel
theorem dX3_set_163 : decode cX3_set 163 = .ok (.getfield 27, 3) := by decide +kernel
theorem dX3_set_166 : decode cX3_set 166 = .ok (.iload_n 1, 1) := by decide +kernel
theorem dX3_set_167 : decode cX3_set 167 = .ok (.lload_n 3, 1) := by decide +kernel
theorem dX3_set_168 : decode cX3_set 168 = .ok (.lastore, 1) := by decide +kernel
theorem dX3_set_169 : decode cX3_set 169 = .ok (.goto 10, 3) := by decide +kernel
theorem dX3_set_172 : decode cX3_set 172 = .ok (.aload_n 0, 1) := by decide +kernel
theorem dX3_set_173 : decode cX3_set 173 = .ok (.getfield 30, 3) := by decide +kernel
theorem dX3_set_176 : decode cX3_set 176 = .ok (.iload_n 1, 1) := by decide +kernel
theorem dX3_set_177 : decode cX3_set 177 = .ok (.lload_n 3, 1) := by decide +kernel
theorem dX3_set_178 : decode cX3_set 178 = .ok (.lastore, 1) := by decide +kernel
theorem dX3_set_179 : decode cX3_set 179 = .ok (.iconst 0, 1) := by decide +kernel
theorem dX3_set_180 : decode cX3_set 180 = .ok (.ireturn, 1) := by decide +kernel
set_option maxRecDepth 20000 in
theorem ggX3_get_X3_lack : GoodIn wsX3_get wsX3_lack := goodIn_r _ [12, 13, 14, 15, 11, 16, 17, 18, 19, 20, 21, 22, 23, 24, 25, 26, 27, 28, 29, 30, 31, 32, 33, 34, 35, 36, 37] (by decide +kernel) (by decide +kernel)
set_option maxRecDepth 20000 in
theorem gX3_get_X3_lack : GoodIn wsX3_get (wsV RX3 111 RX3 yX3_lack wsX3_lack) := goodIn_app (goodIn_of _ (by decide +kernel)) ggX3_get_X3_lack
theorem dX3_get_0 : decode cX3_get 0 = .ok (.aload_n 0, 1) := by decide +kernel
theorem dX3_get_1 : decode cX3_get 1 = .ok (.iload_n 2, 1) := by decide +kernel
theorem dX3_get_2 : decode cX3_get 2 = .ok (.ifCond .lt 8, 3) := by decide +kernel
theorem dX3_get_5 : decode cX3_get 5 = .ok (.iload_n 2, 1) := by decide +kernel
theorem dX3_get_6 : decode cX3_get 6 = .ok (.iconst 5, 1) := by decide +kernel
theorem dX3_get_7 : decode cX3_get 7 = .ok (.if_icmp .le 7, 3) := by decide +kernel
theorem dX3_get_10 : decode cX3_get 10 = .ok (.iconst 5, 1) := by decide +kernel
theorem dX3_get_11 : decode cX3_get 11 = .ok (.goto 8, 3) := by decide +kernel
theorem dX3_get_14 : decode cX3_get 14 = .ok (.aload_n 0, 1) := by decide +kernel
theorem dX3_get_15 : decode cX3_get 15 = .ok (.iload_n 1, 1) := by decide +kernel
theorem dX3_get_16 : decode cX3_get 16 = .ok (.invokevirtual 111, 3) := by decide +kernel
theorem dX3_get_19 : decode cX3_get 19 = .ok (.putfield 114, 3) := by decide +kernel
theorem dX3_get_22 : decode cX3_get 22 = .ok (.aload_n 0, 1) := by decide +kernel
theorem dX3_get_23 : decode cX3_get 23 = .ok (.getfield 114, 3) := by decide +kernel
theorem dX3_get_26 : decode cX3_get 26 = .ok (.ifCond .le 5, 3) := by decide +kernel
theorem dX3_get_29 : decode cX3_get 29 = .ok (.lconst 0, 1) := by decide +kernel
theorem dX3_get_30 : decode cX3_get 30 = .ok (.lreturn, 1) := by decide +kernel
theorem dX3_get_31 : decode cX3_get 31 = .ok (.iload_n 2, 1) := by decide +kernel
theorem dX3_get_32 : decode cX3_get 32 = .ok (.ifCond .ne 12, 3) := by decide +kernel
theorem dX3_get_35 : decode cX3_get 35 = .ok (.aload_n 0, 1) := by decide +kernel
theorem dX3_get_36 : decode cX3_get 36 = .ok (.getfield 13, 3) := by decide +kernel
theorem dX3_get_39 : decode cX3_get 39 = .ok (.iload_n 1, 1) := by decide +kernel
theorem dX3_get_40 : decode cX3_get 40 = .ok (.laload, 1) := by decide +kernel
theorem dX3_get_41 : decode cX3_get 41 = .ok (.goto 67, 3) := by decide +kernel
theorem dX3_get_44 : decode cX3_get 44 = .ok (.iload_n 2, 1) := by decide +kernel
theorem dX3_get_45 : decode cX3_get 45 = .ok (.iconst 1, 1) := by decide +kernel
theorem dX3_get_46 : decode cX3_get 46 = .ok (.if_icmp .ne 13, 3) := by decide +kernel
theorem dX3_get_49 : decode cX3_get 49 = .ok (.aload_n 0, 1) := by decide +kernel
theorem dX3_get_50 : decode cX3_get 50 = .ok (.getfield 17, 3) := by decide +kernel
theorem dX3_get_53 : decode cX3_get 53 = .ok (.iload_n 1, 1) := by decide +kernel
theorem dX3_get_54 : decode cX3_get 54 = .ok (.iaload, 1) := by decide +kernel
theorem dX3_get_55 : decode cX3_get 55 = .ok (.i2l, 1) := by decide +kernel
theorem dX3_get_56 : decode cX3_get 56 = .ok (.goto 52, 3) := by decide +kernel
theorem dX3_get_59 : decode cX3_get 59 = .ok (.iload_n 2, 1) := by decide +kernel
theorem dX3_get_60 : decode cX3_get 60 = .ok (.iconst 2, 1) := by decide +kernel
theorem dX3_get_61 : decode cX3_get 61 = .ok (.if_icmp .ne 13, 3) := by decide +kernel
theorem dX3_get_64 : decode cX3_get 64 = .ok (.aload_n 0, 1) := by decide +kernel
theorem dX3_get_65 : decode cX3_get 65 = .ok (.getfield 21, 3) := by decide +kernel
theorem dX3_get_68 : decode cX3_get 68 = .ok (.iload_n 1, 1) := by decide +kernel
theorem dX3_get_69 : decode cX3_get 69 = .ok (.iaload, 1) := by decide +kernel
theorem dX3_get_70 : decode cX3_get 70 = .ok (.i2l, 1) := by decide +kernel
theorem dX3_get_71 : decode cX3_get 71 = .ok (.goto 37, 3) := by decide +kernel
theorem dX3_get_74 : decode cX3_get 74 = .ok (.iload_n 2, 1) := by decide +kernel
theorem dX3_get_75 : decode cX3_get 75 = .ok (.iconst 3, 1) := by decide +kernel
theorem dX3_get_76 : decode cX3_get 76 = .ok (.if_icmp .ne 12, 3) := by decide +kernel
theorem dX3_get_79 : decode cX3_get 79 = .ok (.aload_n 0, 1) := by decide +kernel
theorem dX3_get_80 : decode cX3_get 80 = .ok (.getfield 24, 3) := by decide +kernel
theorem dX3_get_83 : decode cX3_get 83 = .ok (.iload_n 1, 1) := by decide +kernel
theorem dX3_get_84 : decode cX3_get 84 = .ok (.laload, 1) := by decide +kernel
theorem dX3_get_85 : decode cX3_get 85 = .ok (.goto 23, 3) := by decide +kernel
theorem dX3_get_88 : decode cX3_get 88 = .ok (.iload_n 2, 1) := by decide +kernel
theorem dX3_get_89 : decode cX3_get 89 = .ok (.iconst 4, 1) := by decide +kernel
theorem dX3_get_90 : decode cX3_get 90 = .ok (.if_icmp .ne 12, 3) := by decide +kernel
theorem dX3_get_93 : decode cX3_get 93 = .ok (.aload_n 0, 1) := by decide +kernel
theorem dX3_get_94 : decode cX3_get 94 = .ok (.getfield 27, 3) := by decide +kernel
theorem dX3_get_97 : decode cX3_get 97 = .ok (.iload_n 1, 1) := by decide +kernel
theorem dX3_get_98 : decode cX3_get 98 = .ok (.laload, 1) := by decide +kernel
theorem dX3_get_99 : decode cX3_get 99 = .ok (.goto 9, 3) := by decide +kernel
theorem dX3_get_102 : decode cX3_get 102 = .ok (.aload_n 0, 1) := by decide +kernel
theorem dX3_get_103 : decode cX3_get 103 = .ok (.getfield 30, 3) := by decide +kernel
theorem dX3_get_106 : decode cX3_get 106 = .ok (.iload_n 1, 1) := by decide +kernel
theorem dX3_get_107 : decode cX3_get 107 = .ok (.laload, 1) := by decide +kernel
theorem dX3_get_108 : decode cX3_get 108 = .ok (.lreturn, 1) := by decide +kernel
theorem dX3_refused_0 : decode cX3_refused 0 = .ok (.aload_n 0, 1) := by decide +kernel
theorem dX3_refused_1 : decode cX3_refused 1 = .ok (.getfield 114, 3) := by decide +kernel
theorem dX3_refused_4 : decode cX3_refused 4 = .ok (.ireturn, 1) := by decide +kernel
set_option maxRecDepth 20000 in
theorem ggX3_cut_X3_lack : GoodIn wsX3_cut wsX3_lack := goodIn_r _ [7, 2, 8, 9, 6, 10, 11, 12, 13, 14, 15, 16, 17, 18, 19, 20, 21, 22, 23, 24, 25, 26, 27, 28, 29, 30, 31] (by decide +kernel) (by decide +kernel)
set_option maxRecDepth 20000 in
theorem gX3_cut_X3_lack : GoodIn wsX3_cut (wsV RX3 111 RX3 yX3_lack wsX3_lack) := goodIn_app (goodIn_of _ (by decide +kernel)) ggX3_cut_X3_lack
theorem dX3_cut_0 : decode cX3_cut 0 = .ok (.aload_n 0, 1) := by decide +kernel
theorem dX3_cut_1 : decode cX3_cut 1 = .ok (.aload_n 0, 1) := by decide +kernel
theorem dX3_cut_2 : decode cX3_cut 2 = .ok (.iload_n 1, 1) := by decide +kernel
theorem dX3_cut_3 : decode cX3_cut 3 = .ok (.invokevirtual 111, 3) := by decide +kernel
theorem dX3_cut_6 : decode cX3_cut 6 = .ok (.putfield 114, 3) := by decide +kernel
theorem dX3_cut_9 : decode cX3_cut 9 = .ok (.aload_n 0, 1) := by decide +kernel
theorem dX3_cut_10 : decode cX3_cut 10 = .ok (.getfield 114, 3) := by decide +kernel
theorem dX3_cut_13 : decode cX3_cut 13 = .ok (.ifCond .ne 10, 3) := by decide +kernel
theorem dX3_cut_16 : decode cX3_cut 16 = .ok (.aload_n 0, 1) := by decide +kernel
theorem dX3_cut_17 : decode cX3_cut 17 = .ok (.getfield 7, 3) := by decide +kernel
theorem dX3_cut_20 : decode cX3_cut 20 = .ok (.iload_n 1, 1) := by decide +kernel
theorem dX3_cut_21 : decode cX3_cut 21 = .ok (.iconst 1, 1) := by decide +kernel
theorem dX3_cut_22 : decode cX3_cut 22 = .ok (.bastore, 1) := by decide +kernel
theorem dX3_cut_23 : decode cX3_cut 23 = .ok (.aload_n 0, 1) := by decide +kernel
theorem dX3_cut_24 : decode cX3_cut 24 = .ok (.getfield 114, 3) := by decide +kernel
theorem dX3_cut_27 : decode cX3_cut 27 = .ok (.ireturn, 1) := by decide +kernel
set_option maxRecDepth 20000 in
theorem ggX3_string_X3_isThread : GoodIn wsX3_string wsX3_isThread := goodIn_r _ [6] (by decide +kernel) (by decide +kernel)
set_option maxRecDepth 20000 in
theorem gX3_string_X3_isThread : GoodIn wsX3_string (va_wsS RX3 107 yX3_isThread wsX3_isThread) := goodIn_app (goodIn_of _ (by decide +kernel)) ggX3_string_X3_isThread
set_option maxRecDepth 20000 in
theorem ggX3_string_X3_begin : GoodIn wsX3_string wsX3_begin := goodIn_r _ [10, 1, 11, 12, 13, 14, 15, 16, 17, 18, 5, 19, 20, 21, 22, 23, 24, 25, 26, 27, 28, 29, 30, 31, 32, 33, 34, 35, 36, 37, 38, 39, 40, 41, 42, 43, 44, 45, 46, 47, 48, 49, 50, 51] (by decide +kernel) (by decide +kernel)
set_option maxRecDepth 20000 in
theorem gX3_string_X3_begin : GoodIn wsX3_string (wsV RX3 54 RX3 yX3_begin wsX3_begin) := goodIn_app (goodIn_of _ (by decide +kernel)) ggX3_string_X3_begin
theorem dX3_string_0 : decode cX3_string 0 = .ok (.aload_n 0, 1) := by decide +kernel
theorem dX3_string_1 : decode cX3_string 1 = .ok (.iload_n 1, 1) := by decide +kernel
theorem dX3_string_2 : decode cX3_string 2 = .ok (.invokestatic 107, 3) := by decide +kernel
theorem dX3_string_5 : decode cX3_string 5 = .ok (.ifCond .ne 7, 3) := by decide +kernel
theorem dX3_string_8 : decode cX3_string 8 = .ok (.iconst 1, 1) := by decide +kernel
theorem dX3_string_9 : decode cX3_string 9 = .ok (.goto 18, 3) := by decide +kernel
theorem dX3_string_12 : decode cX3_string 12 = .ok (.aload_n 0, 1) := by decide +kernel
theorem dX3_string_13 : decode cX3_string 13 = .ok (.getfield 7, 3) := by decide +kernel
theorem dX3_string_16 : decode cX3_string 16 = .ok (.iload_n 1, 1) := by decide +kernel
theorem dX3_string_17 : decode cX3_string 17 = .ok (.baload, 1) := by decide +kernel
theorem dX3_string_18 : decode cX3_string 18 = .ok (.ifCond .eq 7, 3) := by decide +kernel
theorem dX3_string_21 : decode cX3_string 21 = .ok (.iconst 0, 1) := by decide +kernel
theorem dX3_string_22 : decode cX3_string 22 = .ok (.goto 5, 3) := by decide +kernel
theorem dX3_string_25 : decode cX3_string 25 = .ok (.bipush 7, 2) := by decide +kernel
theorem dX3_string_27 : decode cX3_string 27 = .ok (.putfield 114, 3) := by decide +kernel
theorem dX3_string_30 : decode cX3_string 30 = .ok (.aload_n 0, 1) := by decide +kernel
theorem dX3_string_31 : decode cX3_string 31 = .ok (.getfield 114, 3) := by decide +kernel
theorem dX3_string_34 : decode cX3_string 34 = .ok (.ifCond .ne 8, 3) := by decide +kernel
theorem dX3_string_37 : decode cX3_string 37 = .ok (.aload_n 0, 1) := by decide +kernel
theorem dX3_string_38 : decode cX3_string 38 = .ok (.iload_n 1, 1) := by decide +kernel
theorem dX3_string_39 : decode cX3_string 39 = .ok (.invokevirtual 54, 3) := by decide +kernel
theorem dX3_string_42 : decode cX3_string 42 = .ok (.aload_n 0, 1) := by decide +kernel
theorem dX3_string_43 : decode cX3_string 43 = .ok (.getfield 114, 3) := by decide +kernel
theorem dX3_string_46 : decode cX3_string 46 = .ok (.ireturn, 1) := by decide +kernel
theorem dX3_wantsOther_0 : decode cX3_wantsOther 0 = .ok (.iload_n 0, 1) := by decide +kernel
theorem dX3_wantsOther_1 : decode cX3_wantsOther 1 = .ok (.iconst 1, 1) := by decide +kernel
theorem dX3_wantsOther_2 : decode cX3_wantsOther 2 = .ok (.if_icmp .eq 26, 3) := by decide +kernel
theorem dX3_wantsOther_5 : decode cX3_wantsOther 5 = .ok (.iload_n 0, 1) := by decide +kernel
theorem dX3_wantsOther_6 : decode cX3_wantsOther 6 = .ok (.iconst 2, 1) := by decide +kernel
theorem dX3_wantsOther_7 : decode cX3_wantsOther 7 = .ok (.if_icmp .eq 21, 3) := by decide +kernel
theorem dX3_wantsOther_10 : decode cX3_wantsOther 10 = .ok (.iload_n 0, 1) := by decide +kernel
theorem dX3_wantsOther_11 : decode cX3_wantsOther 11 = .ok (.bipush 7, 2) := by decide +kernel
theorem dX3_wantsOther_13 : decode cX3_wantsOther 13 = .ok (.if_icmp .eq 15, 3) := by decide +kernel
theorem dX3_wantsOther_16 : decode cX3_wantsOther 16 = .ok (.iload_n 0, 1) := by decide +kernel
theorem dX3_wantsOther_17 : decode cX3_wantsOther 17 = .ok (.bipush 9, 2) := by decide +kernel
theorem dX3_wantsOther_19 : decode cX3_wantsOther 19 = .ok (.if_icmp .eq 9, 3) := by decide +kernel
theorem dX3_wantsOther_22 : decode cX3_wantsOther 22 = .ok (.iload_n 0, 1) := by decide +kernel
theorem dX3_wantsOther_23 : decode cX3_wantsOther 23 = .ok (.bipush 11, 2) := by decide +kernel
theorem dX3_wantsOther_25 : decode cX3_wantsOther 25 = .ok (.if_icmp .ne 7, 3) := by decide +kernel
theorem dX3_wantsOther_28 : decode cX3_wantsOther 28 = .ok (.iconst 1, 1) := by decide +kernel
theorem dX3_wantsOther_29 : decode cX3_wantsOther 29 = .ok (.goto 4, 3) := by decide +kernel
theorem dX3_wantsOther_32 : decode cX3_wantsOther 32 = .ok (.iconst 0, 1) := by decide +kernel
theorem dX3_wantsOther_33 : decode cX3_wantsOther 33 = .ok (.ireturn, 1) := by decide +kernel
set_option maxRecDepth 20000 in
theorem ggX3_lackOf_X3_lack : GoodIn wsX3_lackOf wsX3_lack := goodIn_r _ [5, 6, 7, 8, 4, 9, 13, 14, 15, 16, 17, 18, 19, 20, 21, 22, 23, 24, 25, 26, 27, 28, 29, 30, 31, 32, 33] (by decide +kernel) (by decide +kernel)
set_option maxRecDepth 20000 in
theorem gX3_lackOf_X3_lack : GoodIn wsX3_lackOf (wsV RX3 111 RX3 yX3_lack wsX3_lack) := goodIn_app (goodIn_of _ (by decide +kernel)) ggX3_lackOf_X3_lack
set_option maxRecDepth 20000 in
theorem ggX3_lackOf_X3_wantsOther : GoodIn wsX3_lackOf wsX3_wantsOther := goodIn_r _ [12] (by decide +kernel) (by decide +kernel)
set_option maxRecDepth 20000 in
theorem gX3_lackOf_X3_wantsOther : GoodIn wsX3_lackOf (va_wsS RX3 127 yX3_wantsOther wsX3_wantsOther) := goodIn_app (goodIn_of _ (by decide +kernel)) ggX3_lackOf_X3_wantsOther
theorem dX3_lackOf_0 : decode cX3_lackOf 0 = .ok (.iload_n 1, 1) := by decide +kernel
theorem dX3_lackOf_1 : decode cX3_lackOf 1 = .ok (.ifCond .lt 9, 3) := by decide +kernel
theorem dX3_lackOf_4 : decode cX3_lackOf 4 = .ok (.iload_n 1, 1) := by decide +kernel
theorem dX3_lackOf_5 : decode cX3_lackOf 5 = .ok (.bipush 15, 2) := by decide +kernel
theorem dX3_lackOf_7 : decode cX3_lackOf 7 = .ok (.if_icmp .le 5, 3) := by decide +kernel
theorem dX3_lackOf_10 : decode cX3_lackOf 10 = .ok (.iconst 5, 1) := by decide +kernel
theorem dX3_lackOf_11 : decode cX3_lackOf 11 = .ok (.ireturn, 1) := by decide +kernel
theorem dX3_lackOf_12 : decode cX3_lackOf 12 = .ok (.aload_n 0, 1) := by decide +kernel
theorem dX3_lackOf_13 : decode cX3_lackOf 13 = .ok (.iload_n 2, 1) := by decide +kernel
theorem dX3_lackOf_14 : decode cX3_lackOf 14 = .ok (.invokevirtual 111, 3) := by decide +kernel
theorem dX3_lackOf_17 : decode cX3_lackOf 17 = .ok (.ifCond .le 9, 3) := by decide +kernel
theorem dX3_lackOf_20 : decode cX3_lackOf 20 = .ok (.aload_n 0, 1) := by decide +kernel
theorem dX3_lackOf_21 : decode cX3_lackOf 21 = .ok (.iload_n 2, 1) := by decide +kernel
theorem dX3_lackOf_22 : decode cX3_lackOf 22 = .ok (.invokevirtual 111, 3) := by decide +kernel
theorem dX3_lackOf_25 : decode cX3_lackOf 25 = .ok (.ireturn, 1) := by decide +kernel
theorem dX3_lackOf_26 : decode cX3_lackOf 26 = .ok (.iload_n 1, 1) := by decide +kernel
theorem dX3_lackOf_27 : decode cX3_lackOf 27 = .ok (.invokestatic 127, 3) := by decide +kernel
end
section
theorem dX3_lackOf_30 : decode cX3_lackOf 30 = .ok (.ifCond .eq 21, 3) := by decide +kernel
theorem dX3_lackOf_33 : decode cX3_lackOf 33 = .ok (.aload_n 0, 1) := by decide +kernel
theorem dX3_lackOf_34 : decode cX3_lackOf 34 = .ok (.iload_n 3, 1) := by decide +kernel
theorem dX3_lackOf_35 : decode cX3_lackOf 35 = .ok (.invokevirtual 111, 3) := by decide +kernel
theorem dX3_lackOf_38 : decode cX3_lackOf 38 = .ok (.ifCond .le 13, 3) := by decide +kernel
theorem dX3_lackOf_41 : decode cX3_lackOf 41 = .ok (.iconst 2, 1) := by decide +kernel
theorem dX3_lackOf_42 : decode cX3_lackOf 42 = .ok (.aload_n 0, 1) := by decide +kernel
theorem dX3_lackOf_43 : decode cX3_lackOf 43 = .ok (.iload_n 3, 1) := by decide +kernel
theorem dX3_lackOf_44 : decode cX3_lackOf 44 = .ok (.invokevirtual 111, 3) := by decide +kernel
theorem dX3_lackOf_47 : decode cX3_lackOf 47 = .ok (.iadd, 1) := by decide +kernel
theorem dX3_lackOf_48 : decode cX3_lackOf 48 = .ok (.goto 4, 3) := by decide +kernel
theorem dX3_lackOf_51 : decode cX3_lackOf 51 = .ok (.iconst 0, 1) := by decide +kernel
theorem dX3_lackOf_52 : decode cX3_lackOf 52 = .ok (.ireturn, 1) := by decide +kernel
set_option maxRecDepth 20000 in
theorem ggX3_flip_X3_amount : GoodIn wsX3_flip wsX3_amount := goodIn_r _ [8, 9, 10, 11, 7, 12, 13, 14] (by decide +kernel) (by decide +kernel)
set_option maxRecDepth 20000 in
theorem gX3_flip_X3_amount : GoodIn wsX3_flip (va_wsS RX3 80 yX3_amount wsX3_amount) := goodIn_app (goodIn_of _ (by decide +kernel)) ggX3_flip_X3_amount
set_option maxRecDepth 20000 in
theorem ggX3_flip_X3_amount4 : GoodIn wsX3_flip wsX3_amount4 := goodIn_r _ [17, 18] (by decide +kernel) (by decide +kernel)
set_option maxRecDepth 20000 in
theorem gX3_flip_X3_amount4 : GoodIn wsX3_flip (va_wsS RX3 130 yX3_amount4 wsX3_amount4) := goodIn_app (goodIn_of _ (by decide +kernel)) ggX3_flip_X3_amount4
theorem dX3_flip_0 : decode cX3_flip 0 = .ok (.aload_n 0, 1) := by decide +kernel
theorem dX3_flip_1 : decode cX3_flip 1 = .ok (.getfield 13, 3) := by decide +kernel
theorem dX3_flip_4 : decode cX3_flip 4 = .ok (.iload_n 1, 1) := by decide +kernel
theorem dX3_flip_5 : decode cX3_flip 5 = .ok (.aload_n 0, 1) := by decide +kernel
theorem dX3_flip_6 : decode cX3_flip 6 = .ok (.getfield 13, 3) := by decide +kernel
theorem dX3_flip_9 : decode cX3_flip 9 = .ok (.iload_n 1, 1) := by decide +kernel
theorem dX3_flip_10 : decode cX3_flip 10 = .ok (.laload, 1) := by decide +kernel
theorem dX3_flip_11 : decode cX3_flip 11 = .ok (.bipush 52, 2) := by decide +kernel
theorem dX3_flip_13 : decode cX3_flip 13 = .ok (.invokestatic 80, 3) := by decide +kernel
theorem dX3_flip_16 : decode cX3_flip 16 = .ok (.lastore, 1) := by decide +kernel
theorem dX3_flip_17 : decode cX3_flip 17 = .ok (.aload_n 0, 1) := by decide +kernel
theorem dX3_flip_18 : decode cX3_flip 18 = .ok (.getfield 17, 3) := by decide +kernel
theorem dX3_flip_21 : decode cX3_flip 21 = .ok (.iload_n 1, 1) := by decide +kernel
theorem dX3_flip_22 : decode cX3_flip 22 = .ok (.aload_n 0, 1) := by decide +kernel
theorem dX3_flip_23 : decode cX3_flip 23 = .ok (.getfield 17, 3) := by decide +kernel
theorem dX3_flip_26 : decode cX3_flip 26 = .ok (.iload_n 1, 1) := by decide +kernel
theorem dX3_flip_27 : decode cX3_flip 27 = .ok (.iaload, 1) := by decide +kernel
theorem dX3_flip_28 : decode cX3_flip 28 = .ok (.invokestatic 130, 3) := by decide +kernel
theorem dX3_flip_31 : decode cX3_flip 31 = .ok (.iastore, 1) := by decide +kernel
theorem dX3_flip_32 : decode cX3_flip 32 = .ok (.aload_n 0, 1) := by decide +kernel
theorem dX3_flip_33 : decode cX3_flip 33 = .ok (.getfield 21, 3) := by decide +kernel
theorem dX3_flip_36 : decode cX3_flip 36 = .ok (.iload_n 1, 1) := by decide +kernel
theorem dX3_flip_37 : decode cX3_flip 37 = .ok (.aload_n 0, 1) := by decide +kernel
theorem dX3_flip_38 : decode cX3_flip 38 = .ok (.getfield 21, 3) := by decide +kernel
theorem dX3_flip_41 : decode cX3_flip 41 = .ok (.iload_n 1, 1) := by decide +kernel
theorem dX3_flip_42 : decode cX3_flip 42 = .ok (.iaload, 1) := by decide +kernel
theorem dX3_flip_43 : decode cX3_flip 43 = .ok (.ifCond .ge 13, 3) := by decide +kernel
theorem dX3_flip_46 : decode cX3_flip 46 = .ok (.aload_n 0, 1) := by decide +kernel
theorem dX3_flip_47 : decode cX3_flip 47 = .ok (.getfield 21, 3) := by decide +kernel
theorem dX3_flip_50 : decode cX3_flip 50 = .ok (.iload_n 1, 1) := by decide +kernel
theorem dX3_flip_51 : decode cX3_flip 51 = .ok (.iaload, 1) := by decide +kernel
theorem dX3_flip_52 : decode cX3_flip 52 = .ok (.ineg, 1) := by decide +kernel
theorem dX3_flip_53 : decode cX3_flip 53 = .ok (.goto 9, 3) := by decide +kernel
theorem dX3_flip_56 : decode cX3_flip 56 = .ok (.aload_n 0, 1) := by decide +kernel
theorem dX3_flip_57 : decode cX3_flip 57 = .ok (.getfield 21, 3) := by decide +kernel
theorem dX3_flip_60 : decode cX3_flip 60 = .ok (.iload_n 1, 1) := by decide +kernel
theorem dX3_flip_61 : decode cX3_flip 61 = .ok (.iaload, 1) := by decide +kernel
theorem dX3_flip_62 : decode cX3_flip 62 = .ok (.iastore, 1) := by decide +kernel
theorem dX3_flip_63 : decode cX3_flip 63 = .ok (.aload_n 0, 1) := by decide +kernel
theorem dX3_flip_64 : decode cX3_flip 64 = .ok (.getfield 24, 3) := by decide +kernel
theorem dX3_flip_67 : decode cX3_flip 67 = .ok (.iload_n 1, 1) := by decide +kernel
theorem dX3_flip_68 : decode cX3_flip 68 = .ok (.aload_n 0, 1) := by decide +kernel
theorem dX3_flip_69 : decode cX3_flip 69 = .ok (.getfield 24, 3) := by decide +kernel
theorem dX3_flip_72 : decode cX3_flip 72 = .ok (.iload_n 1, 1) := by decide +kernel
theorem dX3_flip_73 : decode cX3_flip 73 = .ok (.laload, 1) := by decide +kernel
theorem dX3_flip_74 : decode cX3_flip 74 = .ok (.lconst 0, 1) := by decide +kernel
theorem dX3_flip_75 : decode cX3_flip 75 = .ok (.lcmp, 1) := by decide +kernel
theorem dX3_flip_76 : decode cX3_flip 76 = .ok (.ifCond .ge 13, 3) := by decide +kernel
theorem dX3_flip_79 : decode cX3_flip 79 = .ok (.aload_n 0, 1) := by decide +kernel
theorem dX3_flip_80 : decode cX3_flip 80 = .ok (.getfield 24, 3) := by decide +kernel
theorem dX3_flip_83 : decode cX3_flip 83 = .ok (.iload_n 1, 1) := by decide +kernel
theorem dX3_flip_84 : decode cX3_flip 84 = .ok (.laload, 1) := by decide +kernel
theorem dX3_flip_85 : decode cX3_flip 85 = .ok (.lneg, 1) := by decide +kernel
theorem dX3_flip_86 : decode cX3_flip 86 = .ok (.goto 9, 3) := by decide +kernel
theorem dX3_flip_89 : decode cX3_flip 89 = .ok (.aload_n 0, 1) := by decide +kernel
theorem dX3_flip_90 : decode cX3_flip 90 = .ok (.getfield 24, 3) := by decide +kernel
theorem dX3_flip_93 : decode cX3_flip 93 = .ok (.iload_n 1, 1) := by decide +kernel
theorem dX3_flip_94 : decode cX3_flip 94 = .ok (.laload, 1) := by decide +kernel
theorem dX3_flip_95 : decode cX3_flip 95 = .ok (.lastore, 1) := by decide +kernel
theorem dX3_flip_96 : decode cX3_flip 96 = .ok (.return_, 1) := by decide +kernel
set_option maxRecDepth 20000 in
theorem ggX3_stretch_X3_greater : GoodIn wsX3_stretch wsX3_greater := goodIn_r _ [8, 9, 10, 7, 11, 12] (by decide +kernel) (by decide +kernel)
set_option maxRecDepth 20000 in
theorem gX3_stretch_X3_greater : GoodIn wsX3_stretch (va_wsS RX3 133 yX3_greater wsX3_greater) := goodIn_app (goodIn_of _ (by decide +kernel)) ggX3_stretch_X3_greater
set_option maxRecDepth 20000 in
theorem ggX3_stretch_X3_greater4 : GoodIn wsX3_stretch wsX3_greater4 := goodIn_r _ [15, 16, 17, 7, 18, 19] (by decide +kernel) (by decide +kernel)
set_option maxRecDepth 20000 in
theorem gX3_stretch_X3_greater4 : GoodIn wsX3_stretch (va_wsS RX3 137 yX3_greater4 wsX3_greater4) := goodIn_app (goodIn_of _ (by decide +kernel)) ggX3_stretch_X3_greater4
theorem dX3_stretch_0 : decode cX3_stretch 0 = .ok (.aload_n 0, 1) := by decide +kernel
theorem dX3_stretch_1 : decode cX3_stretch 1 = .ok (.getfield 13, 3) := by decide +kernel
theorem dX3_stretch_4 : decode cX3_stretch 4 = .ok (.iload_n 1, 1) := by decide +kernel
theorem dX3_stretch_5 : decode cX3_stretch 5 = .ok (.aload_n 0, 1) := by decide +kernel
theorem dX3_stretch_6 : decode cX3_stretch 6 = .ok (.getfield 13, 3) := by decide +kernel
theorem dX3_stretch_9 : decode cX3_stretch 9 = .ok (.iload_n 1, 1) := by decide +kernel
theorem dX3_stretch_10 : decode cX3_stretch 10 = .ok (.laload, 1) := by decide +kernel
theorem dX3_stretch_11 : decode cX3_stretch 11 = .ok (.aload_n 0, 1) := by decide +kernel
theorem dX3_stretch_12 : decode cX3_stretch 12 = .ok (.getfield 13, 3) := by decide +kernel
theorem dX3_stretch_15 : decode cX3_stretch 15 = .ok (.iload_n 2, 1) := by decide +kernel
theorem dX3_stretch_16 : decode cX3_stretch 16 = .ok (.laload, 1) := by decide +kernel
theorem dX3_stretch_17 : decode cX3_stretch 17 = .ok (.invokestatic 133, 3) := by decide +kernel
theorem dX3_stretch_20 : decode cX3_stretch 20 = .ok (.lastore, 1) := by decide +kernel
theorem dX3_stretch_21 : decode cX3_stretch 21 = .ok (.aload_n 0, 1) := by decide +kernel
theorem dX3_stretch_22 : decode cX3_stretch 22 = .ok (.getfield 17, 3) := by decide +kernel
theorem dX3_stretch_25 : decode cX3_stretch 25 = .ok (.iload_n 1, 1) := by decide +kernel
theorem dX3_stretch_26 : decode cX3_stretch 26 = .ok (.aload_n 0, 1) := by decide +kernel
theorem dX3_stretch_27 : decode cX3_stretch 27 = .ok (.getfield 17, 3) := by decide +kernel
theorem dX3_stretch_30 : decode cX3_stretch 30 = .ok (.iload_n 1, 1) := by decide +kernel
theorem dX3_stretch_31 : decode cX3_stretch 31 = .ok (.iaload, 1) := by decide +kernel
theorem dX3_stretch_32 : decode cX3_stretch 32 = .ok (.aload_n 0, 1) := by decide +kernel
theorem dX3_stretch_33 : decode cX3_stretch 33 = .ok (.getfield 17, 3) := by decide +kernel
theorem dX3_stretch_36 : decode cX3_stretch 36 = .ok (.iload_n 2, 1) := by decide +kernel
theorem dX3_stretch_37 : decode cX3_stretch 37 = .ok (.iaload, 1) := by decide +kernel
theorem dX3_stretch_38 : decode cX3_stretch 38 = .ok (.invokestatic 137, 3) := by decide +kernel
theorem dX3_stretch_41 : decode cX3_stretch 41 = .ok (.iastore, 1) := by decide +kernel
theorem dX3_stretch_42 : decode cX3_stretch 42 = .ok (.aload_n 0, 1) := by decide +kernel
theorem dX3_stretch_43 : decode cX3_stretch 43 = .ok (.getfield 21, 3) := by decide +kernel
theorem dX3_stretch_46 : decode cX3_stretch 46 = .ok (.iload_n 1, 1) := by decide +kernel
theorem dX3_stretch_47 : decode cX3_stretch 47 = .ok (.aload_n 0, 1) := by decide +kernel
theorem dX3_stretch_48 : decode cX3_stretch 48 = .ok (.getfield 21, 3) := by decide +kernel
theorem dX3_stretch_51 : decode cX3_stretch 51 = .ok (.iload_n 2, 1) := by decide +kernel
theorem dX3_stretch_52 : decode cX3_stretch 52 = .ok (.iaload, 1) := by decide +kernel
theorem dX3_stretch_53 : decode cX3_stretch 53 = .ok (.aload_n 0, 1) := by decide +kernel
theorem dX3_stretch_54 : decode cX3_stretch 54 = .ok (.getfield 21, 3) := by decide +kernel
theorem dX3_stretch_57 : decode cX3_stretch 57 = .ok (.iload_n 1, 1) := by decide +kernel
theorem dX3_stretch_58 : decode cX3_stretch 58 = .ok (.iaload, 1) := by decide +kernel
theorem dX3_stretch_59 : decode cX3_stretch 59 = .ok (.if_icmp .le 12, 3) := by decide +kernel
theorem dX3_stretch_62 : decode cX3_stretch 62 = .ok (.aload_n 0, 1) := by decide +kernel
theorem dX3_stretch_63 : decode cX3_stretch 63 = .ok (.getfield 21, 3) := by decide +kernel
theorem dX3_stretch_66 : decode cX3_stretch 66 = .ok (.iload_n 2, 1) := by decide +kernel
theorem dX3_stretch_67 : decode cX3_stretch 67 = .ok (.iaload, 1) := by decide +kernel
theorem dX3_stretch_68 : decode cX3_stretch 68 = .ok (.goto 9, 3) := by decide +kernel
theorem dX3_stretch_71 : decode cX3_stretch 71 = .ok (.aload_n 0, 1) := by decide +kernel
theorem dX3_stretch_72 : decode cX3_stretch 72 = .ok (.getfield 21, 3) := by decide +kernel
theorem dX3_stretch_75 : decode cX3_stretch 75 = .ok (.iload_n 1, 1) := by decide +kernel
theorem dX3_stretch_76 : decode cX3_stretch 76 = .ok (.iaload, 1) := by decide +kernel
theorem dX3_stretch_77 : decode cX3_stretch 77 = .ok (.iastore, 1) := by decide +kernel
theorem dX3_stretch_78 : decode cX3_stretch 78 = .ok (.aload_n 0, 1) := by decide +kernel
theorem dX3_stretch_79 : decode cX3_stretch 79 = .ok (.getfield 24, 3) := by decide +kernel
theorem dX3_stretch_82 : decode cX3_stretch 82 = .ok (.iload_n 1, 1) := by decide +kernel
theorem dX3_stretch_83 : decode cX3_stretch 83 = .ok (.aload_n 0, 1) := by decide +kernel
theorem dX3_stretch_84 : decode cX3_stretch 84 = .ok (.getfield 24, 3) := by decide +kernel
theorem dX3_stretch_87 : decode cX3_stretch 87 = .ok (.iload_n 2, 1) := by decide +kernel
theorem dX3_stretch_88 : decode cX3_stretch 88 = .ok (.laload, 1) := by decide +kernel
theorem dX3_stretch_89 : decode cX3_stretch 89 = .ok (.aload_n 0, 1) := by decide +kernel
theorem dX3_stretch_90 : decode cX3_stretch 90 = .ok (.getfield 24, 3) := by decide +kernel
theorem dX3_stretch_93 : decode cX3_stretch 93 = .ok (.iload_n 1, 1) := by decide +kernel
theorem dX3_stretch_94 : decode cX3_stretch 94 = .ok (.laload, 1) := by decide +kernel
theorem dX3_stretch_95 : decode cX3_stretch 95 = .ok (.lcmp, 1) := by decide +kernel
theorem dX3_stretch_96 : decode cX3_stretch 96 = .ok (.ifCond .le 12, 3) := by decide +kernel
theorem dX3_stretch_99 : decode cX3_stretch 99 = .ok (.aload_n 0, 1) := by decide +kernel
theorem dX3_stretch_100 : decode cX3_stretch 100 = .ok (.getfield 24, 3) := by decide +kernel
theorem dX3_stretch_103 : decode cX3_stretch 103 = .ok (.iload_n 2, 1) := by decide +kernel
theorem dX3_stretch_104 : decode cX3_stretch 104 = .ok (.laload, 1) := by decide +kernel
theorem dX3_stretch_105 : decode cX3_stretch 105 = .ok (.goto 9, 3) := by decide +kernel
theorem dX3_stretch_108 : decode cX3_stretch 108 = .ok (.aload_n 0, 1) := by decide +kernel
theorem dX3_stretch_109 : decode cX3_stretch 109 = .ok (.getfield 24, 3) := by decide +kernel
theorem dX3_stretch_112 : decode cX3_stretch 112 = .ok (.iload_n 1, 1) := by decide +kernel
theorem dX3_stretch_113 : decode cX3_stretch 113 = .ok (.laload, 1) := by decide +kernel
theorem dX3_stretch_114 : decode cX3_stretch 114 = .ok (.lastore, 1) := by decide +kernel
theorem dX3_stretch_115 : decode cX3_stretch 115 = .ok (.return_, 1) := by decide +kernel
set_option maxRecDepth 20000 in
theorem ggX3_ease_X3_lesser : GoodIn wsX3_ease wsX3_lesser := goodIn_r _ [8, 9, 10, 7, 11, 12] (by decide +kernel) (by decide +kernel)
set_option maxRecDepth 20000 in
theorem gX3_ease_X3_lesser : GoodIn wsX3_ease (va_wsS RX3 141 yX3_lesser wsX3_lesser) := goodIn_app (goodIn_of _ (by decide +kernel)) ggX3_ease_X3_lesser
set_option maxRecDepth 20000 in
theorem ggX3_ease_X3_lesser4 : GoodIn wsX3_ease wsX3_lesser4 := goodIn_r _ [15, 16, 17, 7, 18, 19] (by decide +kernel) (by decide +kernel)
set_option maxRecDepth 20000 in
theorem gX3_ease_X3_lesser4 : GoodIn wsX3_ease (va_wsS RX3 144 yX3_lesser4 wsX3_lesser4) := goodIn_app (goodIn_of _ (by decide +kernel)) ggX3_ease_X3_lesser4
theorem dX3_ease_0 : decode cX3_ease 0 = .ok (.aload_n 0, 1) := by decide +kernel
theorem dX3_ease_1 : decode cX3_ease 1 = .ok (.getfield 13, 3) := by decide +kernel
theorem dX3_ease_4 : decode cX3_ease 4 = .ok (.iload_n 1, 1) := by decide +kernel
theorem dX3_ease_5 : decode cX3_ease 5 = .ok (.aload_n 0, 1) := by decide +kernel
theorem dX3_ease_6 : decode cX3_ease 6 = .ok (.getfield 13, 3) := by decide +kernel
theorem dX3_ease_9 : decode cX3_ease 9 = .ok (.iload_n 1, 1) := by decide +kernel
theorem dX3_ease_10 : decode cX3_ease 10 = .ok (.laload, 1) := by decide +kernel
theorem dX3_ease_11 : decode cX3_ease 11 = .ok (.aload_n 0, 1) := by decide +kernel
theorem dX3_ease_12 : decode cX3_ease 12 = .ok (.getfield 13, 3) := by decide +kernel
theorem dX3_ease_15 : decode cX3_ease 15 = .ok (.iload_n 2, 1) := by decide +kernel
theorem dX3_ease_16 : decode cX3_ease 16 = .ok (.laload, 1) := by decide +kernel
theorem dX3_ease_17 : decode cX3_ease 17 = .ok (.invokestatic 141, 3) := by decide +kernel
theorem dX3_ease_20 : decode cX3_ease 20 = .ok (.lastore, 1) := by decide +kernel
theorem dX3_ease_21 : decode cX3_ease 21 = .ok (.aload_n 0, 1) := by decide +kernel
theorem dX3_ease_22 : decode cX3_ease 22 = .ok (.getfield 17, 3) := by decide +kernel
theorem dX3_ease_25 : decode cX3_ease 25 = .ok (.iload_n 1, 1) := by decide +kernel
theorem dX3_ease_26 : decode cX3_ease 26 = .ok (.aload_n 0, 1) := by decide +kernel
theorem dX3_ease_27 : decode cX3_ease 27 = .ok (.getfield 17, 3) := by decide +kernel
theorem dX3_ease_30 : decode cX3_ease 30 = .ok (.iload_n 1, 1) := by decide +kernel
theorem dX3_ease_31 : decode cX3_ease 31 = .ok (.iaload, 1) := by decide +kernel
theorem dX3_ease_32 : decode cX3_ease 32 = .ok (.aload_n 0, 1) := by decide +kernel
theorem dX3_ease_33 : decode cX3_ease 33 = .ok (.getfield 17, 3) := by decide +kernel
theorem dX3_ease_36 : decode cX3_ease 36 = .ok (.iload_n 2, 1) := by decide +kernel
theorem dX3_ease_37 : decode cX3_ease 37 = .ok (.iaload, 1) := by decide +kernel
theorem dX3_ease_38 : decode cX3_ease 38 = .ok (.invokestatic 144, 3) := by decide +kernel
theorem dX3_ease_41 : decode cX3_ease 41 = .ok (.iastore, 1) := by decide +kernel
theorem dX3_ease_42 : decode cX3_ease 42 = .ok (.aload_n 0, 1) := by decide +kernel
theorem dX3_ease_43 : decode cX3_ease 43 = .ok (.getfield 21, 3) := by decide +kernel
theorem dX3_ease_46 : decode cX3_ease 46 = .ok (.iload_n 1, 1) := by decide +kernel
theorem dX3_ease_47 : decode cX3_ease 47 = .ok (.aload_n 0, 1) := by decide +kernel
theorem dX3_ease_48 : decode cX3_ease 48 = .ok (.getfield 21, 3) := by decide +kernel
theorem dX3_ease_51 : decode cX3_ease 51 = .ok (.iload_n 2, 1) := by decide +kernel
theorem dX3_ease_52 : decode cX3_ease 52 = .ok (.iaload, 1) := by decide +kernel
theorem dX3_ease_53 : decode cX3_ease 53 = .ok (.aload_n 0, 1) := by decide +kernel
theorem dX3_ease_54 : decode cX3_ease 54 = .ok (.getfield 21, 3) := by decide +kernel
theorem dX3_ease_57 : decode cX3_ease 57 = .ok (.iload_n 1, 1) := by decide +kernel
theorem dX3_ease_58 : decode cX3_ease 58 = .ok (.iaload, 1) := by decide +kernel
theorem dX3_ease_59 : decode cX3_ease 59 = .ok (.if_icmp .ge 12, 3) := by decide +kernel
theorem dX3_ease_62 : decode cX3_ease 62 = .ok (.aload_n 0, 1) := by decide +kernel
theorem dX3_ease_63 : decode cX3_ease 63 = .ok (.getfield 21, 3) := by decide +kernel
theorem dX3_ease_66 : decode cX3_ease 66 = .ok (.iload_n 2, 1) := by decide +kernel
theorem dX3_ease_67 : decode cX3_ease 67 = .ok (.iaload, 1) := by decide +kernel
theorem dX3_ease_68 : decode cX3_ease 68 = .ok (.goto 9, 3) := by decide +kernel
theorem dX3_ease_71 : decode cX3_ease 71 = .ok (.aload_n 0, 1) := by decide +kernel
theorem dX3_ease_72 : decode cX3_ease 72 = .ok (.getfield 21, 3) := by decide +kernel
theorem dX3_ease_75 : decode cX3_ease 75 = .ok (.iload_n 1, 1) := by decide +kernel
theorem dX3_ease_76 : decode cX3_ease 76 = .ok (.iaload, 1) := by decide +kernel
theorem dX3_ease_77 : decode cX3_ease 77 = .ok (.iastore, 1) := by decide +kernel
theorem dX3_ease_78 : decode cX3_ease 78 = .ok (.aload_n 0, 1) := by decide +kernel
theorem dX3_ease_79 : decode cX3_ease 79 = .ok (.getfield 24, 3) := by decide +kernel
theorem dX3_ease_82 : decode cX3_ease 82 = .ok (.iload_n 1, 1) := by decide +kernel
theorem dX3_ease_83 : decode cX3_ease 83 = .ok (.aload_n 0, 1) := by decide +kernel
theorem dX3_ease_84 : decode cX3_ease 84 = .ok (.getfield 24, 3) := by decide +kernel
theorem dX3_ease_87 : decode cX3_ease 87 = .ok (.iload_n 2, 1) := by decide +kernel
theorem dX3_ease_88 : decode cX3_ease 88 = .ok (.laload, 1) := by decide +kernel
theorem dX3_ease_89 : decode cX3_ease 89 = .ok (.aload_n 0, 1) := by decide +kernel
theorem dX3_ease_90 : decode cX3_ease 90 = .ok (.getfield 24, 3) := by decide +kernel
theorem dX3_ease_93 : decode cX3_ease 93 = .ok (.iload_n 1, 1) := by decide +kernel
theorem dX3_ease_94 : decode cX3_ease 94 = .ok (.laload, 1) := by decide +kernel
theorem dX3_ease_95 : decode cX3_ease 95 = .ok (.lcmp, 1) := by decide +kernel
theorem dX3_ease_96 : decode cX3_ease 96 = .ok (.ifCond .ge 12, 3) := by decide +kernel
theorem dX3_ease_99 : decode cX3_ease 99 = .ok (.aload_n 0, 1) := by decide +kernel
theorem dX3_ease_100 : decode cX3_ease 100 = .ok (.getfield 24, 3) := by decide +kernel
theorem dX3_ease_103 : decode cX3_ease 103 = .ok (.iload_n 2, 1) := by decide +kernel
theorem dX3_ease_104 : decode cX3_ease 104 = .ok (.laload, 1) := by decide +kernel
theorem dX3_ease_105 : decode cX3_ease 105 = .ok (.goto 9, 3) := by decide +kernel
theorem dX3_ease_108 : decode cX3_ease 108 = .ok (.aload_n 0, 1) := by decide +kernel
theorem dX3_ease_109 : decode cX3_ease 109 = .ok (.getfield 24, 3) := by decide +kernel
theorem dX3_ease_112 : decode cX3_ease 112 = .ok (.iload_n 1, 1) := by decide +kernel
theorem dX3_ease_113 : decode cX3_ease 113 = .ok (.laload, 1) := by decide +kernel
theorem dX3_ease_114 : decode cX3_ease 114 = .ok (.lastore, 1) := by decide +kernel
theorem dX3_ease_115 : decode cX3_ease 115 = .ok (.return_, 1) := by decide +kernel
set_option maxRecDepth 20000 in
theorem ggX3_wholes_X3_thin : GoodIn wsX3_wholes wsX3_thin := goodIn_r _ [6, 7] (by decide +kernel) (by decide +kernel)
set_option maxRecDepth 20000 in
theorem gX3_wholes_X3_thin : GoodIn wsX3_wholes (va_wsS RX3 121 yX3_thin wsX3_thin) := goodIn_app (goodIn_of _ (by decide +kernel)) ggX3_wholes_X3_thin
set_option maxRecDepth 20000 in
theorem ggX3_wholes_X3_down : GoodIn wsX3_wholes wsX3_down := goodIn_r _ [10, 11, 12, 13, 5, 14, 15, 16, 17, 18, 19, 20, 21, 22, 23, 24, 25, 26, 27, 28, 29, 30] (by decide +kernel) (by decide +kernel)
set_option maxRecDepth 20000 in
theorem gX3_wholes_X3_down : GoodIn wsX3_wholes (va_wsS RX3 91 yX3_down wsX3_down) := goodIn_app (goodIn_of _ (by decide +kernel)) ggX3_wholes_X3_down
set_option maxRecDepth 20000 in
theorem ggX3_wholes_X3_up : GoodIn wsX3_wholes wsX3_up := goodIn_r _ [33, 15, 16, 5, 17, 18, 19, 8, 9, 10, 11, 12, 13, 14, 20, 21, 22, 23, 24, 25, 26, 27, 28, 29, 30] (by decide +kernel) (by decide +kernel)
set_option maxRecDepth 20000 in
theorem gX3_wholes_X3_up : GoodIn wsX3_wholes (va_wsS RX3 147 yX3_up wsX3_up) := goodIn_app (goodIn_of _ (by decide +kernel)) ggX3_wholes_X3_up
set_option maxRecDepth 20000 in
theorem ggX3_wholes_X3_near : GoodIn wsX3_wholes wsX3_near := goodIn_r _ [36, 11, 37, 12, 13, 5, 14, 15, 16, 17, 18, 19, 20, 21, 22, 23, 24, 25, 26, 27] (by decide +kernel) (by decide +kernel)
set_option maxRecDepth 20000 in
theorem gX3_wholes_X3_near : GoodIn wsX3_wholes (va_wsS RX3 150 yX3_near wsX3_near) := goodIn_app (goodIn_of _ (by decide +kernel)) ggX3_wholes_X3_near
theorem dX3_wholes_0 : decode cX3_wholes 0 = .ok (.aload_n 0, 1) := by decide +kernel
theorem dX3_wholes_1 : decode cX3_wholes 1 = .ok (.getfield 17, 3) := by decide +kernel
theorem dX3_wholes_4 : decode cX3_wholes 4 = .ok (.iload_n 2, 1) := by decide +kernel
theorem dX3_wholes_5 : decode cX3_wholes 5 = .ok (.iaload, 1) := by decide +kernel
theorem dX3_wholes_6 : decode cX3_wholes 6 = .ok (.invokestatic 121, 3) := by decide +kernel
theorem dX3_wholes_9 : decode cX3_wholes 9 = .ok (.lstore_n 3, 1) := by decide +kernel
theorem dX3_wholes_10 : decode cX3_wholes 10 = .ok (.aload_n 0, 1) := by decide +kernel
theorem dX3_wholes_11 : decode cX3_wholes 11 = .ok (.getfield 13, 3) := by decide +kernel
theorem dX3_wholes_14 : decode cX3_wholes 14 = .ok (.iload_n 2, 1) := by decide +kernel
theorem dX3_wholes_15 : decode cX3_wholes 15 = .ok (.iload_n 1, 1) := by decide +kernel
theorem dX3_wholes_16 : decode cX3_wholes 16 = .ok (.iconst 3, 1) := by decide +kernel
theorem dX3_wholes_17 : decode cX3_wholes 17 = .ok (.if_icmp .ne 17, 3) := by decide +kernel
theorem dX3_wholes_20 : decode cX3_wholes 20 = .ok (.aload_n 0, 1) := by decide +kernel
theorem dX3_wholes_21 : decode cX3_wholes 21 = .ok (.getfield 13, 3) := by decide +kernel
theorem dX3_wholes_24 : decode cX3_wholes 24 = .ok (.iload_n 2, 1) := by decide +kernel
theorem dX3_wholes_25 : decode cX3_wholes 25 = .ok (.laload, 1) := by decide +kernel
theorem dX3_wholes_26 : decode cX3_wholes 26 = .ok (.bipush 52, 2) := by decide +kernel
theorem dX3_wholes_28 : decode cX3_wholes 28 = .ok (.invokestatic 91, 3) := by decide +kernel
theorem dX3_wholes_31 : decode cX3_wholes 31 = .ok (.goto 33, 3) := by decide +kernel
theorem dX3_wholes_34 : decode cX3_wholes 34 = .ok (.iload_n 1, 1) := by decide +kernel
theorem dX3_wholes_35 : decode cX3_wholes 35 = .ok (.iconst 4, 1) := by decide +kernel
theorem dX3_wholes_36 : decode cX3_wholes 36 = .ok (.if_icmp .ne 17, 3) := by decide +kernel
theorem dX3_wholes_39 : decode cX3_wholes 39 = .ok (.aload_n 0, 1) := by decide +kernel
theorem dX3_wholes_40 : decode cX3_wholes 40 = .ok (.getfield 13, 3) := by decide +kernel
theorem dX3_wholes_43 : decode cX3_wholes 43 = .ok (.iload_n 2, 1) := by decide +kernel
theorem dX3_wholes_44 : decode cX3_wholes 44 = .ok (.laload, 1) := by decide +kernel
theorem dX3_wholes_45 : decode cX3_wholes 45 = .ok (.bipush 52, 2) := by decide +kernel
theorem dX3_wholes_47 : decode cX3_wholes 47 = .ok (.invokestatic 147, 3) := by decide +kernel
theorem dX3_wholes_50 : decode cX3_wholes 50 = .ok (.goto 14, 3) := by decide +kernel
theorem dX3_wholes_53 : decode cX3_wholes 53 = .ok (.aload_n 0, 1) := by decide +kernel
theorem dX3_wholes_54 : decode cX3_wholes 54 = .ok (.getfield 13, 3) := by decide +kernel
theorem dX3_wholes_57 : decode cX3_wholes 57 = .ok (.iload_n 2, 1) := by decide +kernel
theorem dX3_wholes_58 : decode cX3_wholes 58 = .ok (.laload, 1) := by decide +kernel
theorem dX3_wholes_59 : decode cX3_wholes 59 = .ok (.bipush 52, 2) := by decide +kernel
theorem dX3_wholes_61 : decode cX3_wholes 61 = .ok (.invokestatic 150, 3) := by decide +kernel
theorem dX3_wholes_64 : decode cX3_wholes 64 = .ok (.lastore, 1) := by decide +kernel
theorem dX3_wholes_65 : decode cX3_wholes 65 = .ok (.aload_n 0, 1) := by decide +kernel
theorem dX3_wholes_66 : decode cX3_wholes 66 = .ok (.getfield 17, 3) := by decide +kernel
theorem dX3_wholes_69 : decode cX3_wholes 69 = .ok (.iload_n 2, 1) := by decide +kernel
theorem dX3_wholes_70 : decode cX3_wholes 70 = .ok (.iload_n 1, 1) := by decide +kernel
theorem dX3_wholes_71 : decode cX3_wholes 71 = .ok (.iconst 3, 1) := by decide +kernel
theorem dX3_wholes_72 : decode cX3_wholes 72 = .ok (.if_icmp .ne 12, 3) := by decide +kernel
theorem dX3_wholes_75 : decode cX3_wholes 75 = .ok (.lload_n 3, 1) := by decide +kernel
theorem dX3_wholes_76 : decode cX3_wholes 76 = .ok (.bipush 23, 2) := by decide +kernel
theorem dX3_wholes_78 : decode cX3_wholes 78 = .ok (.invokestatic 91, 3) := by decide +kernel
theorem dX3_wholes_81 : decode cX3_wholes 81 = .ok (.goto 23, 3) := by decide +kernel
theorem dX3_wholes_84 : decode cX3_wholes 84 = .ok (.iload_n 1, 1) := by decide +kernel
theorem dX3_wholes_85 : decode cX3_wholes 85 = .ok (.iconst 4, 1) := by decide +kernel
theorem dX3_wholes_86 : decode cX3_wholes 86 = .ok (.if_icmp .ne 12, 3) := by decide +kernel
theorem dX3_wholes_89 : decode cX3_wholes 89 = .ok (.lload_n 3, 1) := by decide +kernel
theorem dX3_wholes_90 : decode cX3_wholes 90 = .ok (.bipush 23, 2) := by decide +kernel
theorem dX3_wholes_92 : decode cX3_wholes 92 = .ok (.invokestatic 147, 3) := by decide +kernel
theorem dX3_wholes_95 : decode cX3_wholes 95 = .ok (.goto 9, 3) := by decide +kernel
theorem dX3_wholes_98 : decode cX3_wholes 98 = .ok (.lload_n 3, 1) := by decide +kernel
theorem dX3_wholes_99 : decode cX3_wholes 99 = .ok (.bipush 23, 2) := by decide +kernel
theorem dX3_wholes_101 : decode cX3_wholes 101 = .ok (.invokestatic 150, 3) := by decide +kernel
theorem dX3_wholes_104 : decode cX3_wholes 104 = .ok (.l2i, 1) := by decide +kernel
theorem dX3_wholes_105 : decode cX3_wholes 105 = .ok (.iastore, 1) := by decide +kernel
theorem dX3_wholes_106 : decode cX3_wholes 106 = .ok (.return_, 1) := by decide +kernel
set_option maxRecDepth 20000 in
theorem ggX3_lean_X3_thin : GoodIn wsX3_lean wsX3_thin := goodIn_r _ [8, 9] (by decide +kernel) (by decide +kernel)
set_option maxRecDepth 20000 in
theorem gX3_lean_X3_thin : GoodIn wsX3_lean (va_wsS RX3 121 yX3_thin wsX3_thin) := goodIn_app (goodIn_of _ (by decide +kernel)) ggX3_lean_X3_thin
set_option maxRecDepth 20000 in
theorem ggX3_lean_X3_amount : GoodIn wsX3_lean wsX3_amount := goodIn_r _ [12, 13, 14, 15, 7, 16, 17, 18] (by decide +kernel) (by decide +kernel)
set_option maxRecDepth 20000 in
theorem gX3_lean_X3_amount : GoodIn wsX3_lean (va_wsS RX3 80 yX3_amount wsX3_amount) := goodIn_app (goodIn_of _ (by decide +kernel)) ggX3_lean_X3_amount
set_option maxRecDepth 20000 in
theorem ggX3_lean_X3_sign : GoodIn wsX3_lean wsX3_sign := goodIn_r _ [16, 17, 18] (by decide +kernel) (by decide +kernel)
set_option maxRecDepth 20000 in
theorem gX3_lean_X3_sign : GoodIn wsX3_lean (va_wsS RX3 62 yX3_sign wsX3_sign) := goodIn_app (goodIn_of _ (by decide +kernel)) ggX3_lean_X3_sign
set_option maxRecDepth 20000 in
theorem ggX3_lean_X3_one : GoodIn wsX3_lean wsX3_one := goodIn_r _ [21, 22, 23, 7, 24, 25, 26] (by decide +kernel) (by decide +kernel)
set_option maxRecDepth 20000 in
theorem gX3_lean_X3_one : GoodIn wsX3_lean (va_wsS RX3 84 yX3_one wsX3_one) := goodIn_app (goodIn_of _ (by decide +kernel)) ggX3_lean_X3_one
theorem dX3_lean_0 : decode cX3_lean 0 = .ok (.aload_n 0, 1) := by decide +kernel
theorem dX3_lean_1 : decode cX3_lean 1 = .ok (.getfield 17, 3) := by decide +kernel
theorem dX3_lean_4 : decode cX3_lean 4 = .ok (.iload_n 1, 1) := by decide +kernel
theorem dX3_lean_5 : decode cX3_lean 5 = .ok (.iaload, 1) := by decide +kernel
theorem dX3_lean_6 : decode cX3_lean 6 = .ok (.invokestatic 121, 3) := by decide +kernel
theorem dX3_lean_9 : decode cX3_lean 9 = .ok (.lstore_n 2, 1) := by decide +kernel
theorem dX3_lean_10 : decode cX3_lean 10 = .ok (.aload_n 0, 1) := by decide +kernel
theorem dX3_lean_11 : decode cX3_lean 11 = .ok (.aload_n 0, 1) := by decide +kernel
theorem dX3_lean_12 : decode cX3_lean 12 = .ok (.getfield 13, 3) := by decide +kernel
theorem dX3_lean_15 : decode cX3_lean 15 = .ok (.iload_n 1, 1) := by decide +kernel
theorem dX3_lean_16 : decode cX3_lean 16 = .ok (.laload, 1) := by decide +kernel
theorem dX3_lean_17 : decode cX3_lean 17 = .ok (.bipush 52, 2) := by decide +kernel
theorem dX3_lean_19 : decode cX3_lean 19 = .ok (.invokestatic 80, 3) := by decide +kernel
theorem dX3_lean_22 : decode cX3_lean 22 = .ok (.lconst 0, 1) := by decide +kernel
theorem dX3_lean_23 : decode cX3_lean 23 = .ok (.lcmp, 1) := by decide +kernel
theorem dX3_lean_24 : decode cX3_lean 24 = .ok (.ifCond .ne 12, 3) := by decide +kernel
theorem dX3_lean_27 : decode cX3_lean 27 = .ok (.aload_n 0, 1) := by decide +kernel
theorem dX3_lean_28 : decode cX3_lean 28 = .ok (.getfield 13, 3) := by decide +kernel
theorem dX3_lean_31 : decode cX3_lean 31 = .ok (.iload_n 1, 1) := by decide +kernel
theorem dX3_lean_32 : decode cX3_lean 32 = .ok (.laload, 1) := by decide +kernel
theorem dX3_lean_33 : decode cX3_lean 33 = .ok (.goto 21, 3) := by decide +kernel
theorem dX3_lean_36 : decode cX3_lean 36 = .ok (.aload_n 0, 1) := by decide +kernel
theorem dX3_lean_37 : decode cX3_lean 37 = .ok (.getfield 13, 3) := by decide +kernel
theorem dX3_lean_40 : decode cX3_lean 40 = .ok (.iload_n 1, 1) := by decide +kernel
theorem dX3_lean_41 : decode cX3_lean 41 = .ok (.laload, 1) := by decide +kernel
theorem dX3_lean_42 : decode cX3_lean 42 = .ok (.bipush 52, 2) := by decide +kernel
theorem dX3_lean_44 : decode cX3_lean 44 = .ok (.invokestatic 62, 3) := by decide +kernel
theorem dX3_lean_47 : decode cX3_lean 47 = .ok (.land, 1) := by decide +kernel
theorem dX3_lean_48 : decode cX3_lean 48 = .ok (.bipush 52, 2) := by decide +kernel
theorem dX3_lean_50 : decode cX3_lean 50 = .ok (.invokestatic 84, 3) := by decide +kernel
theorem dX3_lean_53 : decode cX3_lean 53 = .ok (.lor, 1) := by decide +kernel
theorem dX3_lean_54 : decode cX3_lean 54 = .ok (.putfield 153, 3) := by decide +kernel
theorem dX3_lean_57 : decode cX3_lean 57 = .ok (.aload_n 0, 1) := by decide +kernel
theorem dX3_lean_58 : decode cX3_lean 58 = .ok (.lload_n 2, 1) := by decide +kernel
theorem dX3_lean_59 : decode cX3_lean 59 = .ok (.bipush 23, 2) := by decide +kernel
theorem dX3_lean_61 : decode cX3_lean 61 = .ok (.invokestatic 80, 3) := by decide +kernel
theorem dX3_lean_64 : decode cX3_lean 64 = .ok (.lconst 0, 1) := by decide +kernel
theorem dX3_lean_65 : decode cX3_lean 65 = .ok (.lcmp, 1) := by decide +kernel
theorem dX3_lean_66 : decode cX3_lean 66 = .ok (.ifCond .ne 7, 3) := by decide +kernel
theorem dX3_lean_69 : decode cX3_lean 69 = .ok (.lload_n 2, 1) := by decide +kernel
theorem dX3_lean_70 : decode cX3_lean 70 = .ok (.goto 16, 3) := by decide +kernel
theorem dX3_lean_73 : decode cX3_lean 73 = .ok (.lload_n 2, 1) := by decide +kernel
theorem dX3_lean_74 : decode cX3_lean 74 = .ok (.bipush 23, 2) := by decide +kernel
theorem dX3_lean_76 : decode cX3_lean 76 = .ok (.invokestatic 62, 3) := by decide +kernel
theorem dX3_lean_79 : decode cX3_lean 79 = .ok (.land, 1) := by decide +kernel
theorem dX3_lean_80 : decode cX3_lean 80 = .ok (.bipush 23, 2) := by decide +kernel
theorem dX3_lean_82 : decode cX3_lean 82 = .ok (.invokestatic 84, 3) := by decide +kernel
theorem dX3_lean_85 : decode cX3_lean 85 = .ok (.lor, 1) := by decide +kernel
theorem dX3_lean_86 : decode cX3_lean 86 = .ok (.l2i, 1) := by decide +kernel
theorem dX3_lean_87 : decode cX3_lean 87 = .ok (.putfield 157, 3) := by decide +kernel
theorem dX3_lean_90 : decode cX3_lean 90 = .ok (.return_, 1) := by decide +kernel
set_option maxRecDepth 20000 in
theorem ggX3_mirror_X3_amount : GoodIn wsX3_mirror wsX3_amount := goodIn_r _ [7, 8, 9, 10, 6, 11, 12, 13] (by decide +kernel) (by decide +kernel)
set_option maxRecDepth 20000 in
theorem gX3_mirror_X3_amount : GoodIn wsX3_mirror (va_wsS RX3 80 yX3_amount wsX3_amount) := goodIn_app (goodIn_of _ (by decide +kernel)) ggX3_mirror_X3_amount
set_option maxRecDepth 20000 in
theorem ggX3_mirror_X3_sign : GoodIn wsX3_mirror wsX3_sign := goodIn_r _ [11, 12, 13] (by decide +kernel) (by decide +kernel)
set_option maxRecDepth 20000 in
theorem gX3_mirror_X3_sign : GoodIn wsX3_mirror (va_wsS RX3 62 yX3_sign wsX3_sign) := goodIn_app (goodIn_of _ (by decide +kernel)) ggX3_mirror_X3_sign
set_option maxRecDepth 20000 in
theorem ggX3_mirror_X3_amount4 : GoodIn wsX3_mirror wsX3_amount4 := goodIn_r _ [16, 17] (by decide +kernel) (by decide +kernel)
set_option maxRecDepth 20000 in
theorem gX3_mirror_X3_amount4 : GoodIn wsX3_mirror (va_wsS RX3 130 yX3_amount4 wsX3_amount4) := goodIn_app (goodIn_of _ (by decide +kernel)) ggX3_mirror_X3_amount4
theorem dX3_mirror_0 : decode cX3_mirror 0 = .ok (.aload_n 0, 1) := by decide +kernel
theorem dX3_mirror_1 : decode cX3_mirror 1 = .ok (.getfield 13, 3) := by decide +kernel
theorem dX3_mirror_4 : decode cX3_mirror 4 = .ok (.iload_n 1, 1) := by decide +kernel
theorem dX3_mirror_5 : decode cX3_mirror 5 = .ok (.aload_n 0, 1) := by decide +kernel
theorem dX3_mirror_6 : decode cX3_mirror 6 = .ok (.getfield 13, 3) := by decide +kernel
theorem dX3_mirror_9 : decode cX3_mirror 9 = .ok (.iload_n 1, 1) := by decide +kernel
theorem dX3_mirror_10 : decode cX3_mirror 10 = .ok (.laload, 1) := by decide +kernel
theorem dX3_mirror_11 : decode cX3_mirror 11 = .ok (.bipush 52, 2) := by decide +kernel
theorem dX3_mirror_13 : decode cX3_mirror 13 = .ok (.invokestatic 80, 3) := by decide +kernel
theorem dX3_mirror_16 : decode cX3_mirror 16 = .ok (.aload_n 0, 1) := by decide +kernel
theorem dX3_mirror_17 : decode cX3_mirror 17 = .ok (.getfield 13, 3) := by decide +kernel
theorem dX3_mirror_20 : decode cX3_mirror 20 = .ok (.iload_n 2, 1) := by decide +kernel
theorem dX3_mirror_21 : decode cX3_mirror 21 = .ok (.laload, 1) := by decide +kernel
theorem dX3_mirror_22 : decode cX3_mirror 22 = .ok (.bipush 52, 2) := by decide +kernel
theorem dX3_mirror_24 : decode cX3_mirror 24 = .ok (.invokestatic 62, 3) := by decide +kernel
theorem dX3_mirror_27 : decode cX3_mirror 27 = .ok (.land, 1) := by decide +kernel
theorem dX3_mirror_28 : decode cX3_mirror 28 = .ok (.lor, 1) := by decide +kernel
theorem dX3_mirror_29 : decode cX3_mirror 29 = .ok (.lastore, 1) := by decide +kernel
theorem dX3_mirror_30 : decode cX3_mirror 30 = .ok (.aload_n 0, 1) := by decide +kernel
theorem dX3_mirror_31 : decode cX3_mirror 31 = .ok (.getfield 17, 3) := by decide +kernel
theorem dX3_mirror_34 : decode cX3_mirror 34 = .ok (.iload_n 1, 1) := by decide +kernel
theorem dX3_mirror_35 : decode cX3_mirror 35 = .ok (.aload_n 0, 1) := by decide +kernel
theorem dX3_mirror_36 : decode cX3_mirror 36 = .ok (.getfield 17, 3) := by decide +kernel
theorem dX3_mirror_39 : decode cX3_mirror 39 = .ok (.iload_n 1, 1) := by decide +kernel
theorem dX3_mirror_40 : decode cX3_mirror 40 = .ok (.iaload, 1) := by decide +kernel
theorem dX3_mirror_41 : decode cX3_mirror 41 = .ok (.invokestatic 130, 3) := by decide +kernel
theorem dX3_mirror_44 : decode cX3_mirror 44 = .ok (.aload_n 0, 1) := by decide +kernel
theorem dX3_mirror_45 : decode cX3_mirror 45 = .ok (.getfield 17, 3) := by decide +kernel
theorem dX3_mirror_48 : decode cX3_mirror 48 = .ok (.iload_n 2, 1) := by decide +kernel
theorem dX3_mirror_49 : decode cX3_mirror 49 = .ok (.iaload, 1) := by decide +kernel
theorem dX3_mirror_50 : decode cX3_mirror 50 = .ok (.ldc 160, 2) := by decide +kernel
theorem dX3_mirror_52 : decode cX3_mirror 52 = .ok (.iand, 1) := by decide +kernel
theorem dX3_mirror_53 : decode cX3_mirror 53 = .ok (.ior, 1) := by decide +kernel
theorem dX3_mirror_54 : decode cX3_mirror 54 = .ok (.iastore, 1) := by decide +kernel
theorem dX3_mirror_55 : decode cX3_mirror 55 = .ok (.return_, 1) := by decide +kernel
set_option maxRecDepth 20000 in
theorem ggX3_stops_X3_lesser : GoodIn wsX3_stops wsX3_lesser := goodIn_r _ [7, 8, 9, 6, 10, 11] (by decide +kernel) (by decide +kernel)
set_option maxRecDepth 20000 in
theorem gX3_stops_X3_lesser : GoodIn wsX3_stops (va_wsS RX3 141 yX3_lesser wsX3_lesser) := goodIn_app (goodIn_of _ (by decide +kernel)) ggX3_stops_X3_lesser
set_option maxRecDepth 20000 in
theorem ggX3_stops_X3_greater : GoodIn wsX3_stops wsX3_greater := goodIn_r _ [14, 8, 9, 6, 10, 11] (by decide +kernel) (by decide +kernel)
set_option maxRecDepth 20000 in
theorem gX3_stops_X3_greater : GoodIn wsX3_stops (va_wsS RX3 133 yX3_greater wsX3_greater) := goodIn_app (goodIn_of _ (by decide +kernel)) ggX3_stops_X3_greater
theorem dX3_stops_0 : decode cX3_stops 0 = .ok (.aload_n 0, 1) := by decide +kernel
theorem dX3_stops_1 : decode cX3_stops 1 = .ok (.getfield 13, 3) := by decide +kernel
theorem dX3_stops_4 : decode cX3_stops 4 = .ok (.iload_n 1, 1) := by decide +kernel
theorem dX3_stops_5 : decode cX3_stops 5 = .ok (.laload, 1) := by decide +kernel
theorem dX3_stops_6 : decode cX3_stops 6 = .ok (.aload_n 0, 1) := by decide +kernel
theorem dX3_stops_7 : decode cX3_stops 7 = .ok (.getfield 13, 3) := by decide +kernel
theorem dX3_stops_10 : decode cX3_stops 10 = .ok (.iload_n 2, 1) := by decide +kernel
theorem dX3_stops_11 : decode cX3_stops 11 = .ok (.laload, 1) := by decide +kernel
theorem dX3_stops_12 : decode cX3_stops 12 = .ok (.invokestatic 141, 3) := by decide +kernel
theorem dX3_stops_15 : decode cX3_stops 15 = .ok (.lstore_n 3, 1) := by decide +kernel
theorem dX3_stops_16 : decode cX3_stops 16 = .ok (.aload_n 0, 1) := by decide +kernel
theorem dX3_stops_17 : decode cX3_stops 17 = .ok (.getfield 13, 3) := by decide +kernel
theorem dX3_stops_20 : decode cX3_stops 20 = .ok (.iload_n 1, 1) := by decide +kernel
theorem dX3_stops_21 : decode cX3_stops 21 = .ok (.laload, 1) := by decide +kernel
theorem dX3_stops_22 : decode cX3_stops 22 = .ok (.aload_n 0, 1) := by decide +kernel
theorem dX3_stops_23 : decode cX3_stops 23 = .ok (.getfield 13, 3) := by decide +kernel
theorem dX3_stops_26 : decode cX3_stops 26 = .ok (.iload_n 2, 1) := by decide +kernel
theorem dX3_stops_27 : decode cX3_stops 27 = .ok (.laload, 1) := by decide +kernel
theorem dX3_stops_28 : decode cX3_stops 28 = .ok (.invokestatic 133, 3) := by decide +kernel
theorem dX3_stops_31 : decode cX3_stops 31 = .ok (.lstore 5, 2) := by decide +kernel
theorem dX3_stops_33 : decode cX3_stops 33 = .ok (.aload_n 0, 1) := by decide +kernel
theorem dX3_stops_34 : decode cX3_stops 34 = .ok (.getfield 27, 3) := by decide +kernel
theorem dX3_stops_37 : decode cX3_stops 37 = .ok (.iload_n 1, 1) := by decide +kernel
theorem dX3_stops_38 : decode cX3_stops 38 = .ok (.lload_n 3, 1) := by decide +kernel
theorem dX3_stops_39 : decode cX3_stops 39 = .ok (.lastore, 1) := by decide +kernel
theorem dX3_stops_40 : decode cX3_stops 40 = .ok (.aload_n 0, 1) := by decide +kernel
theorem dX3_stops_41 : decode cX3_stops 41 = .ok (.getfield 30, 3) := by decide +kernel
theorem dX3_stops_44 : decode cX3_stops 44 = .ok (.iload_n 1, 1) := by decide +kernel
theorem dX3_stops_45 : decode cX3_stops 45 = .ok (.lload 5, 2) := by decide +kernel
theorem dX3_stops_47 : decode cX3_stops 47 = .ok (.lastore, 1) := by decide +kernel
theorem dX3_stops_48 : decode cX3_stops 48 = .ok (.return_, 1) := by decide +kernel
set_option maxRecDepth 20000 in
theorem ggX3_gather_X3_amount : GoodIn wsX3_gather wsX3_amount := goodIn_r _ [12, 13, 14, 15, 11, 16, 17, 18] (by decide +kernel) (by decide +kernel)
set_option maxRecDepth 20000 in
theorem gX3_gather_X3_amount : GoodIn wsX3_gather (va_wsS RX3 80 yX3_amount wsX3_amount) := goodIn_app (goodIn_of _ (by decide +kernel)) ggX3_gather_X3_amount
set_option maxRecDepth 20000 in
theorem ggX3_gather_X3_greater : GoodIn wsX3_gather wsX3_greater := goodIn_r _ [21, 22, 23, 11, 24, 25] (by decide +kernel) (by decide +kernel)
set_option maxRecDepth 20000 in
theorem gX3_gather_X3_greater : GoodIn wsX3_gather (va_wsS RX3 133 yX3_greater wsX3_greater) := goodIn_app (goodIn_of _ (by decide +kernel)) ggX3_gather_X3_greater
set_option maxRecDepth 20000 in
theorem ggX3_gather_X3_amount4 : GoodIn wsX3_gather wsX3_amount4 := goodIn_r _ [28, 29] (by decide +kernel) (by decide +kernel)
set_option maxRecDepth 20000 in
theorem gX3_gather_X3_amount4 : GoodIn wsX3_gather (va_wsS RX3 130 yX3_amount4 wsX3_amount4) := goodIn_app (goodIn_of _ (by decide +kernel)) ggX3_gather_X3_amount4
set_option maxRecDepth 20000 in
theorem ggX3_gather_X3_lesser4 : GoodIn wsX3_gather wsX3_lesser4 := goodIn_r _ [32, 33, 34, 11, 35, 29] (by decide +kernel) (by decide +kernel)
set_option maxRecDepth 20000 in
theorem gX3_gather_X3_lesser4 : GoodIn wsX3_gather (va_wsS RX3 144 yX3_lesser4 wsX3_lesser4) := goodIn_app (goodIn_of _ (by decide +kernel)) ggX3_gather_X3_lesser4
theorem dX3_gather_0 : decode cX3_gather 0 = .ok (.aload_n 0, 1) := by decide +kernel
theorem dX3_gather_1 : decode cX3_gather 1 = .ok (.getfield 21, 3) := by decide +kernel
theorem dX3_gather_4 : decode cX3_gather 4 = .ok (.iload_n 1, 1) := by decide +kernel
theorem dX3_gather_5 : decode cX3_gather 5 = .ok (.iaload, 1) := by decide +kernel
theorem dX3_gather_6 : decode cX3_gather 6 = .ok (.ifCond .ge 13, 3) := by decide +kernel
theorem dX3_gather_9 : decode cX3_gather 9 = .ok (.aload_n 0, 1) := by decide +kernel
theorem dX3_gather_10 : decode cX3_gather 10 = .ok (.getfield 21, 3) := by decide +kernel
theorem dX3_gather_13 : decode cX3_gather 13 = .ok (.iload_n 1, 1) := by decide +kernel
theorem dX3_gather_14 : decode cX3_gather 14 = .ok (.iaload, 1) := by decide +kernel
theorem dX3_gather_15 : decode cX3_gather 15 = .ok (.ineg, 1) := by decide +kernel
theorem dX3_gather_16 : decode cX3_gather 16 = .ok (.goto 9, 3) := by decide +kernel
theorem dX3_gather_19 : decode cX3_gather 19 = .ok (.aload_n 0, 1) := by decide +kernel
theorem dX3_gather_20 : decode cX3_gather 20 = .ok (.getfield 21, 3) := by decide +kernel
theorem dX3_gather_23 : decode cX3_gather 23 = .ok (.iload_n 1, 1) := by decide +kernel
theorem dX3_gather_24 : decode cX3_gather 24 = .ok (.iaload, 1) := by decide +kernel
theorem dX3_gather_25 : decode cX3_gather 25 = .ok (.istore_n 2, 1) := by decide +kernel
theorem dX3_gather_26 : decode cX3_gather 26 = .ok (.aload_n 0, 1) := by decide +kernel
theorem dX3_gather_27 : decode cX3_gather 27 = .ok (.getfield 24, 3) := by decide +kernel
theorem dX3_gather_30 : decode cX3_gather 30 = .ok (.iload_n 1, 1) := by decide +kernel
theorem dX3_gather_31 : decode cX3_gather 31 = .ok (.laload, 1) := by decide +kernel
theorem dX3_gather_32 : decode cX3_gather 32 = .ok (.lconst 0, 1) := by decide +kernel
theorem dX3_gather_33 : decode cX3_gather 33 = .ok (.lcmp, 1) := by decide +kernel
theorem dX3_gather_34 : decode cX3_gather 34 = .ok (.ifCond .ge 13, 3) := by decide +kernel
theorem dX3_gather_37 : decode cX3_gather 37 = .ok (.aload_n 0, 1) := by decide +kernel
theorem dX3_gather_38 : decode cX3_gather 38 = .ok (.getfield 24, 3) := by decide +kernel
theorem dX3_gather_41 : decode cX3_gather 41 = .ok (.iload_n 1, 1) := by decide +kernel
theorem dX3_gather_42 : decode cX3_gather 42 = .ok (.laload, 1) := by decide +kernel
theorem dX3_gather_43 : decode cX3_gather 43 = .ok (.lneg, 1) := by decide +kernel
theorem dX3_gather_44 : decode cX3_gather 44 = .ok (.goto 9, 3) := by decide +kernel
theorem dX3_gather_47 : decode cX3_gather 47 = .ok (.aload_n 0, 1) := by decide +kernel
theorem dX3_gather_48 : decode cX3_gather 48 = .ok (.getfield 24, 3) := by decide +kernel
theorem dX3_gather_51 : decode cX3_gather 51 = .ok (.iload_n 1, 1) := by decide +kernel
theorem dX3_gather_52 : decode cX3_gather 52 = .ok (.laload, 1) := by decide +kernel
theorem dX3_gather_53 : decode cX3_gather 53 = .ok (.lstore_n 3, 1) := by decide +kernel
theorem dX3_gather_54 : decode cX3_gather 54 = .ok (.aload_n 0, 1) := by decide +kernel
theorem dX3_gather_55 : decode cX3_gather 55 = .ok (.aload_n 0, 1) := by decide +kernel
theorem dX3_gather_56 : decode cX3_gather 56 = .ok (.getfield 153, 3) := by decide +kernel
theorem dX3_gather_59 : decode cX3_gather 59 = .ok (.aload_n 0, 1) := by decide +kernel
theorem dX3_gather_60 : decode cX3_gather 60 = .ok (.getfield 13, 3) := by decide +kernel
theorem dX3_gather_63 : decode cX3_gather 63 = .ok (.iload_n 1, 1) := by decide +kernel
theorem dX3_gather_64 : decode cX3_gather 64 = .ok (.laload, 1) := by decide +kernel
theorem dX3_gather_65 : decode cX3_gather 65 = .ok (.bipush 52, 2) := by decide +kernel
theorem dX3_gather_67 : decode cX3_gather 67 = .ok (.invokestatic 80, 3) := by decide +kernel
theorem dX3_gather_70 : decode cX3_gather 70 = .ok (.invokestatic 133, 3) := by decide +kernel
theorem dX3_gather_73 : decode cX3_gather 73 = .ok (.putfield 153, 3) := by decide +kernel
theorem dX3_gather_76 : decode cX3_gather 76 = .ok (.aload_n 0, 1) := by decide +kernel
theorem dX3_gather_77 : decode cX3_gather 77 = .ok (.aload_n 0, 1) := by decide +kernel
theorem dX3_gather_78 : decode cX3_gather 78 = .ok (.getfield 157, 3) := by decide +kernel
theorem dX3_gather_81 : decode cX3_gather 81 = .ok (.aload_n 0, 1) := by decide +kernel
theorem dX3_gather_82 : decode cX3_gather 82 = .ok (.getfield 17, 3) := by decide +kernel
theorem dX3_gather_85 : decode cX3_gather 85 = .ok (.iload_n 1, 1) := by decide +kernel
theorem dX3_gather_86 : decode cX3_gather 86 = .ok (.iaload, 1) := by decide +kernel
theorem dX3_gather_87 : decode cX3_gather 87 = .ok (.invokestatic 130, 3) := by decide +kernel
theorem dX3_gather_90 : decode cX3_gather 90 = .ok (.invokestatic 144, 3) := by decide +kernel
theorem dX3_gather_93 : decode cX3_gather 93 = .ok (.putfield 157, 3) := by decide +kernel
theorem dX3_gather_96 : decode cX3_gather 96 = .ok (.aload_n 0, 1) := by decide +kernel
theorem dX3_gather_97 : decode cX3_gather 97 = .ok (.iload_n 2, 1) := by decide +kernel
theorem dX3_gather_98 : decode cX3_gather 98 = .ok (.aload_n 0, 1) := by decide +kernel
theorem dX3_gather_99 : decode cX3_gather 99 = .ok (.getfield 161, 3) := by decide +kernel
theorem dX3_gather_102 : decode cX3_gather 102 = .ok (.if_icmp .le 7, 3) := by decide +kernel
theorem dX3_gather_105 : decode cX3_gather 105 = .ok (.iload_n 2, 1) := by decide +kernel
theorem dX3_gather_106 : decode cX3_gather 106 = .ok (.goto 7, 3) := by decide +kernel
theorem dX3_gather_109 : decode cX3_gather 109 = .ok (.aload_n 0, 1) := by decide +kernel
theorem dX3_gather_110 : decode cX3_gather 110 = .ok (.getfield 161, 3) := by decide +kernel
theorem dX3_gather_113 : decode cX3_gather 113 = .ok (.putfield 161, 3) := by decide +kernel
theorem dX3_gather_116 : decode cX3_gather 116 = .ok (.aload_n 0, 1) := by decide +kernel
theorem dX3_gather_117 : decode cX3_gather 117 = .ok (.lload_n 3, 1) := by decide +kernel
theorem dX3_gather_118 : decode cX3_gather 118 = .ok (.aload_n 0, 1) := by decide +kernel
theorem dX3_gather_119 : decode cX3_gather 119 = .ok (.getfield 164, 3) := by decide +kernel
theorem dX3_gather_122 : decode cX3_gather 122 = .ok (.lcmp, 1) := by decide +kernel
theorem dX3_gather_123 : decode cX3_gather 123 = .ok (.ifCond .ge 7, 3) := by decide +kernel
theorem dX3_gather_126 : decode cX3_gather 126 = .ok (.lload_n 3, 1) := by decide +kernel
theorem dX3_gather_127 : decode cX3_gather 127 = .ok (.goto 7, 3) := by decide +kernel
theorem dX3_gather_130 : decode cX3_gather 130 = .ok (.aload_n 0, 1) := by decide +kernel
theorem dX3_gather_131 : decode cX3_gather 131 = .ok (.getfield 164, 3) := by decide +kernel
theorem dX3_gather_134 : decode cX3_gather 134 = .ok (.putfield 164, 3) := by decide +kernel
theorem dX3_gather_137 : decode cX3_gather 137 = .ok (.return_, 1) := by decide +kernel
theorem dX3_trade_0 : decode cX3_trade 0 = .ok (.aload_n 0, 1) := by decide +kernel
theorem dX3_trade_1 : decode cX3_trade 1 = .ok (.iload_n 1, 1) := by decide +kernel
theorem dX3_trade_2 : decode cX3_trade 2 = .ok (.laload, 1) := by decide +kernel
theorem dX3_trade_3 : decode cX3_trade 3 = .ok (.lstore_n 3, 1) := by decide +kernel
theorem dX3_trade_4 : decode cX3_trade 4 = .ok (.aload_n 0, 1) := by decide +kernel
theorem dX3_trade_5 : decode cX3_trade 5 = .ok (.iload_n 1, 1) := by decide +kernel
theorem dX3_trade_6 : decode cX3_trade 6 = .ok (.aload_n 0, 1) := by decide +kernel
theorem dX3_trade_7 : decode cX3_trade 7 = .ok (.iload_n 2, 1) := by decide +kernel
theorem dX3_trade_8 : decode cX3_trade 8 = .ok (.laload, 1) := by decide +kernel
theorem dX3_trade_9 : decode cX3_trade 9 = .ok (.lastore, 1) := by decide +kernel
theorem dX3_trade_10 : decode cX3_trade 10 = .ok (.aload_n 0, 1) := by decide +kernel
theorem dX3_trade_11 : decode cX3_trade 11 = .ok (.iload_n 2, 1) := by decide +kernel
theorem dX3_trade_12 : decode cX3_trade 12 = .ok (.lload_n 3, 1) := by decide +kernel
theorem dX3_trade_13 : decode cX3_trade 13 = .ok (.lastore, 1) := by decide +kernel
theorem dX3_trade_14 : decode cX3_trade 14 = .ok (.return_, 1) := by decide +kernel
theorem dX3_trade4_0 : decode cX3_trade4 0 = .ok (.aload_n 0, 1) := by decide +kernel
theorem dX3_trade4_1 : decode cX3_trade4 1 = .ok (.iload_n 1, 1) := by decide +kernel
theorem dX3_trade4_2 : decode cX3_trade4 2 = .ok (.iaload, 1) := by decide +kernel
theorem dX3_trade4_3 : decode cX3_trade4 3 = .ok (.istore_n 3, 1) := by decide +kernel
theorem dX3_trade4_4 : decode cX3_trade4 4 = .ok (.aload_n 0, 1) := by decide +kernel
theorem dX3_trade4_5 : decode cX3_trade4 5 = .ok (.iload_n 1, 1) := by decide +kernel
theorem dX3_trade4_6 : decode cX3_trade4 6 = .ok (.aload_n 0, 1) := by decide +kernel
theorem dX3_trade4_7 : decode cX3_trade4 7 = .ok (.iload_n 2, 1) := by decide +kernel
theorem dX3_trade4_8 : decode cX3_trade4 8 = .ok (.iaload, 1) := by decide +kernel
theorem dX3_trade4_9 : decode cX3_trade4 9 = .ok (.iastore, 1) := by decide +kernel
theorem dX3_trade4_10 : decode cX3_trade4 10 = .ok (.aload_n 0, 1) := by decide +kernel
theorem dX3_trade4_11 : decode cX3_trade4 11 = .ok (.iload_n 2, 1) := by decide +kernel
theorem dX3_trade4_12 : decode cX3_trade4 12 = .ok (.iload_n 3, 1) := by decide +kernel
theorem dX3_trade4_13 : decode cX3_trade4 13 = .ok (.iastore, 1) := by decide +kernel
theorem dX3_trade4_14 : decode cX3_trade4 14 = .ok (.return_, 1) := by decide +kernel
set_option maxRecDepth 20000 in
theorem ggX3_climb_X3_amount : GoodIn wsX3_climb wsX3_amount := goodIn_r _ [9, 5, 10, 11, 8, 12, 13, 14] (by decide +kernel) (by decide +kernel)
set_option maxRecDepth 20000 in
theorem gX3_climb_X3_amount : GoodIn wsX3_climb (va_wsS RX3 80 yX3_amount wsX3_amount) := goodIn_app (goodIn_of _ (by decide +kernel)) ggX3_climb_X3_amount
set_option maxRecDepth 20000 in
theorem ggX3_climb_X3_amount4 : GoodIn wsX3_climb wsX3_amount4 := goodIn_r _ [17, 18] (by decide +kernel) (by decide +kernel)
set_option maxRecDepth 20000 in
theorem gX3_climb_X3_amount4 : GoodIn wsX3_climb (va_wsS RX3 130 yX3_amount4 wsX3_amount4) := goodIn_app (goodIn_of _ (by decide +kernel)) ggX3_climb_X3_amount4
theorem dX3_climb_0 : decode cX3_climb 0 = .ok (.aload_n 0, 1) := by decide +kernel
theorem dX3_climb_1 : decode cX3_climb 1 = .ok (.getfield 13, 3) := by decide +kernel
theorem dX3_climb_4 : decode cX3_climb 4 = .ok (.iload_n 1, 1) := by decide +kernel
theorem dX3_climb_5 : decode cX3_climb 5 = .ok (.laload, 1) := by decide +kernel
theorem dX3_climb_6 : decode cX3_climb 6 = .ok (.bipush 52, 2) := by decide +kernel
theorem dX3_climb_8 : decode cX3_climb 8 = .ok (.invokestatic 80, 3) := by decide +kernel
theorem dX3_climb_11 : decode cX3_climb 11 = .ok (.lconst 0, 1) := by decide +kernel
theorem dX3_climb_12 : decode cX3_climb 12 = .ok (.lcmp, 1) := by decide +kernel
theorem dX3_climb_13 : decode cX3_climb 13 = .ok (.ifCond .le 28, 3) := by decide +kernel
theorem dX3_climb_16 : decode cX3_climb 16 = .ok (.aload_n 0, 1) := by decide +kernel
theorem dX3_climb_17 : decode cX3_climb 17 = .ok (.getfield 21, 3) := by decide +kernel
theorem dX3_climb_20 : decode cX3_climb 20 = .ok (.iload_n 1, 1) := by decide +kernel
theorem dX3_climb_21 : decode cX3_climb 21 = .ok (.dup2, 1) := by decide +kernel
theorem dX3_climb_22 : decode cX3_climb 22 = .ok (.iaload, 1) := by decide +kernel
theorem dX3_climb_23 : decode cX3_climb 23 = .ok (.aload_n 0, 1) := by decide +kernel
theorem dX3_climb_24 : decode cX3_climb 24 = .ok (.getfield 13, 3) := by decide +kernel
theorem dX3_climb_27 : decode cX3_climb 27 = .ok (.iload_n 1, 1) := by decide +kernel
theorem dX3_climb_28 : decode cX3_climb 28 = .ok (.laload, 1) := by decide +kernel
theorem dX3_climb_29 : decode cX3_climb 29 = .ok (.lconst 0, 1) := by decide +kernel
theorem dX3_climb_30 : decode cX3_climb 30 = .ok (.lcmp, 1) := by decide +kernel
theorem dX3_climb_31 : decode cX3_climb 31 = .ok (.ifCond .ge 7, 3) := by decide +kernel
theorem dX3_climb_34 : decode cX3_climb 34 = .ok (.iconst (-1), 1) := by decide +kernel
theorem dX3_climb_35 : decode cX3_climb 35 = .ok (.goto 4, 3) := by decide +kernel
theorem dX3_climb_38 : decode cX3_climb 38 = .ok (.iconst 1, 1) := by decide +kernel
theorem dX3_climb_39 : decode cX3_climb 39 = .ok (.iadd, 1) := by decide +kernel
theorem dX3_climb_40 : decode cX3_climb 40 = .ok (.iastore, 1) := by decide +kernel
theorem dX3_climb_41 : decode cX3_climb 41 = .ok (.aload_n 0, 1) := by decide +kernel
theorem dX3_climb_42 : decode cX3_climb 42 = .ok (.getfield 17, 3) := by decide +kernel
theorem dX3_climb_45 : decode cX3_climb 45 = .ok (.iload_n 1, 1) := by decide +kernel
theorem dX3_climb_46 : decode cX3_climb 46 = .ok (.iaload, 1) := by decide +kernel
theorem dX3_climb_47 : decode cX3_climb 47 = .ok (.invokestatic 130, 3) := by decide +kernel
theorem dX3_climb_50 : decode cX3_climb 50 = .ok (.ifCond .le 28, 3) := by decide +kernel
theorem dX3_climb_53 : decode cX3_climb 53 = .ok (.aload_n 0, 1) := by decide +kernel
theorem dX3_climb_54 : decode cX3_climb 54 = .ok (.getfield 24, 3) := by decide +kernel
theorem dX3_climb_57 : decode cX3_climb 57 = .ok (.iload_n 1, 1) := by decide +kernel
theorem dX3_climb_58 : decode cX3_climb 58 = .ok (.dup2, 1) := by decide +kernel
theorem dX3_climb_59 : decode cX3_climb 59 = .ok (.laload, 1) := by decide +kernel
theorem dX3_climb_60 : decode cX3_climb 60 = .ok (.aload_n 0, 1) := by decide +kernel
theorem dX3_climb_61 : decode cX3_climb 61 = .ok (.getfield 17, 3) := by decide +kernel
theorem dX3_climb_64 : decode cX3_climb 64 = .ok (.iload_n 1, 1) := by decide +kernel
theorem dX3_climb_65 : decode cX3_climb 65 = .ok (.iaload, 1) := by decide +kernel
theorem dX3_climb_66 : decode cX3_climb 66 = .ok (.ifCond .ge 9, 3) := by decide +kernel
theorem dX3_climb_69 : decode cX3_climb 69 = .ok (.ldc2_w 78, 3) := by decide +kernel
theorem dX3_climb_72 : decode cX3_climb 72 = .ok (.goto 4, 3) := by decide +kernel
theorem dX3_climb_75 : decode cX3_climb 75 = .ok (.lconst 1, 1) := by decide +kernel
theorem dX3_climb_76 : decode cX3_climb 76 = .ok (.ladd, 1) := by decide +kernel
theorem dX3_climb_77 : decode cX3_climb 77 = .ok (.lastore, 1) := by decide +kernel
theorem dX3_climb_78 : decode cX3_climb 78 = .ok (.return_, 1) := by decide +kernel
set_option maxRecDepth 20000 in
theorem ggX3_does_X3_flip : GoodIn wsX3_does wsX3_flip := goodIn_r _ [15, 1, 4, 5, 6, 16, 17, 14, 18, 19, 20, 21, 22, 23, 24, 25, 26, 27, 28, 121, 122, 123, 124, 125, 126, 127, 128, 129, 130, 131, 132, 133, 134, 135, 136, 137, 138, 139, 140, 141] (by decide +kernel) (by decide +kernel)
set_option maxRecDepth 20000 in
theorem gX3_does_X3_flip : GoodIn wsX3_does (wsV RX3 167 RX3 yX3_flip wsX3_flip) := goodIn_app (goodIn_of _ (by decide +kernel)) ggX3_does_X3_flip
set_option maxRecDepth 20000 in
theorem ggX3_does_X3_stretch : GoodIn wsX3_does wsX3_stretch := goodIn_r _ [32, 1, 4, 5, 6, 33, 34, 14, 35, 36, 37, 38, 39, 40, 41, 42, 43, 44, 45, 28, 121, 122, 123, 124, 125, 126, 127, 128, 129, 130, 131, 132, 133, 134, 135, 136, 137, 138, 139, 140, 141] (by decide +kernel) (by decide +kernel)
set_option maxRecDepth 20000 in
theorem gX3_does_X3_stretch : GoodIn wsX3_does (wsV RX3 170 RX3 yX3_stretch wsX3_stretch) := goodIn_app (goodIn_of _ (by decide +kernel)) ggX3_does_X3_stretch
set_option maxRecDepth 20000 in
theorem ggX3_does_X3_ease : GoodIn wsX3_does wsX3_ease := goodIn_r _ [49, 1, 4, 5, 6, 50, 51, 14, 52, 36, 37, 38, 39, 53, 54, 55, 43, 44, 45, 28, 121, 122, 123, 124, 125, 126, 127, 128, 129, 130, 131, 132, 133, 134, 135, 136, 137, 138, 139, 140, 141] (by decide +kernel) (by decide +kernel)
set_option maxRecDepth 20000 in
theorem gX3_does_X3_ease : GoodIn wsX3_does (wsV RX3 174 RX3 yX3_ease wsX3_ease) := goodIn_app (goodIn_of _ (by decide +kernel)) ggX3_does_X3_ease
set_option maxRecDepth 20000 in
theorem ggX3_does_X3_wholes : GoodIn wsX3_does wsX3_wholes := goodIn_r _ [59, 4, 1, 60, 61, 14, 62, 63, 64, 65, 66, 19, 16, 17, 18, 20, 21, 22, 23, 24, 67, 68, 69, 70, 71, 72, 73, 74, 75, 76, 77, 78, 79, 80, 81, 82, 83, 84, 121, 122, 123, 124, 125, 126, 127, 128, 129, 130, 131, 132, 133, 134, 135, 136, 137, 138, 139, 140, 141] (by decide +kernel) (by decide +kernel)
set_option maxRecDepth 20000 in
theorem gX3_does_X3_wholes : GoodIn wsX3_does (wsV RX3 177 RX3 yX3_wholes wsX3_wholes) := goodIn_app (goodIn_of _ (by decide +kernel)) ggX3_does_X3_wholes
set_option maxRecDepth 20000 in
theorem ggX3_does_X3_lean : GoodIn wsX3_does wsX3_lean := goodIn_r _ [88, 4, 1, 7, 8, 60, 61, 14, 62, 63, 16, 17, 18, 19, 20, 21, 22, 23, 24, 72, 73, 74, 67, 68, 69, 70, 71, 121, 122, 123, 124, 125, 126, 127, 128, 129, 130, 131, 132, 133, 134, 135, 136, 137, 138, 139, 140, 141] (by decide +kernel) (by decide +kernel)
set_option maxRecDepth 20000 in
theorem gX3_does_X3_lean : GoodIn wsX3_does (wsV RX3 180 RX3 yX3_lean wsX3_lean) := goodIn_app (goodIn_of _ (by decide +kernel)) ggX3_does_X3_lean
set_option maxRecDepth 20000 in
theorem ggX3_does_X3_mirror : GoodIn wsX3_does wsX3_mirror := goodIn_r _ [92, 1, 4, 93, 16, 17, 14, 18, 19, 20, 21, 22, 23, 24, 25, 26, 27, 28, 121, 122, 123, 124, 125, 126, 127, 128, 129, 130, 131, 132, 133, 134, 135, 136, 137, 138, 139, 140, 141] (by decide +kernel) (by decide +kernel)
set_option maxRecDepth 20000 in
theorem gX3_does_X3_mirror : GoodIn wsX3_does (wsV RX3 183 RX3 yX3_mirror wsX3_mirror) := goodIn_app (goodIn_of _ (by decide +kernel)) ggX3_does_X3_mirror
set_option maxRecDepth 20000 in
theorem ggX3_does_X3_greater : GoodIn wsX3_does wsX3_greater := goodIn_r _ [35, 36, 37, 14, 38, 39] (by decide +kernel) (by decide +kernel)
set_option maxRecDepth 20000 in
theorem gX3_does_X3_greater : GoodIn wsX3_does (va_wsS RX3 133 yX3_greater wsX3_greater) := goodIn_app (goodIn_of _ (by decide +kernel)) ggX3_does_X3_greater
set_option maxRecDepth 20000 in
theorem ggX3_does_X3_lesser : GoodIn wsX3_does wsX3_lesser := goodIn_r _ [52, 36, 37, 14, 38, 39] (by decide +kernel) (by decide +kernel)
set_option maxRecDepth 20000 in
theorem gX3_does_X3_lesser : GoodIn wsX3_does (va_wsS RX3 141 yX3_lesser wsX3_lesser) := goodIn_app (goodIn_of _ (by decide +kernel)) ggX3_does_X3_lesser
set_option maxRecDepth 20000 in
theorem ggX3_does_X3_stops : GoodIn wsX3_does wsX3_stops := goodIn_r _ [97, 1, 2, 3, 50, 51, 14, 52, 36, 37, 38, 39, 33, 34, 35, 121, 122, 123, 124, 125, 126, 127, 128, 129, 130, 131, 132, 133, 134, 135, 136, 137, 138, 139, 140, 141] (by decide +kernel) (by decide +kernel)
set_option maxRecDepth 20000 in
theorem gX3_does_X3_stops : GoodIn wsX3_does (wsV RX3 186 RX3 yX3_stops wsX3_stops) := goodIn_app (goodIn_of _ (by decide +kernel)) ggX3_does_X3_stops
set_option maxRecDepth 20000 in
theorem ggX3_does_X3_gather : GoodIn wsX3_does wsX3_gather := goodIn_r _ [101, 5, 6, 7, 1, 8, 4, 9, 10, 16, 17, 14, 18, 19, 20, 21, 22, 23, 24, 33, 34, 35, 36, 37, 38, 39, 25, 26, 27, 28, 53, 54, 55, 43, 44, 45, 121, 122, 123, 124, 125, 126, 127, 128, 129, 130, 131, 132, 133, 134, 135, 136, 137, 138, 139, 140, 141] (by decide +kernel) (by decide +kernel)
set_option maxRecDepth 20000 in
theorem gX3_does_X3_gather : GoodIn wsX3_does (wsV RX3 189 RX3 yX3_gather wsX3_gather) := goodIn_app (goodIn_of _ (by decide +kernel)) ggX3_does_X3_gather
set_option maxRecDepth 20000 in
theorem ggX3_does_X3_trade : GoodIn wsX3_does wsX3_trade := goodIn_r _ [104] (by decide +kernel) (by decide +kernel)
set_option maxRecDepth 20000 in
theorem gX3_does_X3_trade : GoodIn wsX3_does (va_wsS RX3 192 yX3_trade wsX3_trade) := goodIn_app (goodIn_of _ (by decide +kernel)) ggX3_does_X3_trade
set_option maxRecDepth 20000 in
theorem ggX3_does_X3_trade4 : GoodIn wsX3_does wsX3_trade4 := goodIn_r _ [107] (by decide +kernel) (by decide +kernel)
set_option maxRecDepth 20000 in
theorem gX3_does_X3_trade4 : GoodIn wsX3_does (va_wsS RX3 196 yX3_trade4 wsX3_trade4) := goodIn_app (goodIn_of _ (by decide +kernel)) ggX3_does_X3_trade4
set_option maxRecDepth 20000 in
theorem ggX3_does_X3_climb : GoodIn wsX3_does wsX3_climb := goodIn_r _ [111, 1, 5, 4, 6, 19, 16, 17, 14, 18, 20, 21, 22, 23, 24, 25, 26, 27, 28, 121, 122, 123, 124, 125, 126, 127, 128, 129, 130, 131, 132, 133, 134, 135, 136, 137, 138, 139, 140, 141] (by decide +kernel) (by decide +kernel)
set_option maxRecDepth 20000 in
theorem gX3_does_X3_climb : GoodIn wsX3_does (wsV RX3 200 RX3 yX3_climb wsX3_climb) := goodIn_app (goodIn_of _ (by decide +kernel)) ggX3_does_X3_climb
set_option maxRecDepth 20000 in
theorem ggX3_does_X3_half : GoodIn wsX3_does wsX3_half := goodIn_r _ [114, 16, 17, 14, 18, 19, 20, 21, 22, 23, 24, 115, 116, 117, 84, 67, 68, 69, 70, 71] (by decide +kernel) (by decide +kernel)
set_option maxRecDepth 20000 in
theorem gX3_does_X3_half : GoodIn wsX3_does (va_wsS RX3 203 yX3_half wsX3_half) := goodIn_app (goodIn_of _ (by decide +kernel)) ggX3_does_X3_half
set_option maxRecDepth 20000 in
theorem ggX3_does_X3_thin : GoodIn wsX3_does wsX3_thin := goodIn_r _ [62, 63] (by decide +kernel) (by decide +kernel)
set_option maxRecDepth 20000 in
theorem gX3_does_X3_thin : GoodIn wsX3_does (va_wsS RX3 121 yX3_thin wsX3_thin) := goodIn_app (goodIn_of _ (by decide +kernel)) ggX3_does_X3_thin
set_option maxRecDepth 20000 in
theorem ggX3_does_X3_twice : GoodIn wsX3_does wsX3_twice := goodIn_r _ [120, 84, 16, 17, 14, 18, 19, 20, 21, 22, 23, 24, 67, 68, 69, 70, 71, 115, 116, 117] (by decide +kernel) (by decide +kernel)
set_option maxRecDepth 20000 in
theorem gX3_does_X3_twice : GoodIn wsX3_does (va_wsS RX3 206 yX3_twice wsX3_twice) := goodIn_app (goodIn_of _ (by decide +kernel)) ggX3_does_X3_twice
theorem dX3_does_0 : decode cX3_does 0 = .ok (.iload_n 1, 1) := by decide +kernel
theorem dX3_does_1 : decode cX3_does 1 = .ok (.tableswitch 324 0 14 #[75, 83, 92, 101, 101, 101, 110, 118, 127, 160, 169, 177, 234, 242, 283], 75) := by decide +kernel
theorem dX3_does_76 : decode cX3_does 76 = .ok (.aload_n 0, 1) := by decide +kernel
theorem dX3_does_77 : decode cX3_does 77 = .ok (.iload_n 2, 1) := by decide +kernel
theorem dX3_does_78 : decode cX3_does 78 = .ok (.invokevirtual 167, 3) := by decide +kernel
theorem dX3_does_81 : decode cX3_does 81 = .ok (.goto 284, 3) := by decide +kernel
theorem dX3_does_84 : decode cX3_does 84 = .ok (.aload_n 0, 1) := by decide +kernel
theorem dX3_does_85 : decode cX3_does 85 = .ok (.iload_n 2, 1) := by decide +kernel
theorem dX3_does_86 : decode cX3_does 86 = .ok (.iload_n 3, 1) := by decide +kernel
theorem dX3_does_87 : decode cX3_does 87 = .ok (.invokevirtual 170, 3) := by decide +kernel
theorem dX3_does_90 : decode cX3_does 90 = .ok (.goto 275, 3) := by decide +kernel
theorem dX3_does_93 : decode cX3_does 93 = .ok (.aload_n 0, 1) := by decide +kernel
theorem dX3_does_94 : decode cX3_does 94 = .ok (.iload_n 2, 1) := by decide +kernel
theorem dX3_does_95 : decode cX3_does 95 = .ok (.iload_n 3, 1) := by decide +kernel
theorem dX3_does_96 : decode cX3_does 96 = .ok (.invokevirtual 174, 3) := by decide +kernel
theorem dX3_does_99 : decode cX3_does 99 = .ok (.goto 266, 3) := by decide +kernel
theorem dX3_does_102 : decode cX3_does 102 = .ok (.aload_n 0, 1) := by decide +kernel
theorem dX3_does_103 : decode cX3_does 103 = .ok (.iload_n 1, 1) := by decide +kernel
theorem dX3_does_104 : decode cX3_does 104 = .ok (.iload_n 2, 1) := by decide +kernel
theorem dX3_does_105 : decode cX3_does 105 = .ok (.invokevirtual 177, 3) := by decide +kernel
theorem dX3_does_108 : decode cX3_does 108 = .ok (.goto 257, 3) := by decide +kernel
theorem dX3_does_111 : decode cX3_does 111 = .ok (.aload_n 0, 1) := by decide +kernel
theorem dX3_does_112 : decode cX3_does 112 = .ok (.iload_n 2, 1) := by decide +kernel
theorem dX3_does_113 : decode cX3_does 113 = .ok (.invokevirtual 180, 3) := by decide +kernel
theorem dX3_does_116 : decode cX3_does 116 = .ok (.goto 249, 3) := by decide +kernel
theorem dX3_does_119 : decode cX3_does 119 = .ok (.aload_n 0, 1) := by decide +kernel
theorem dX3_does_120 : decode cX3_does 120 = .ok (.iload_n 2, 1) := by decide +kernel
theorem dX3_does_121 : decode cX3_does 121 = .ok (.iload_n 3, 1) := by decide +kernel
theorem dX3_does_122 : decode cX3_does 122 = .ok (.invokevirtual 183, 3) := by decide +kernel
theorem dX3_does_125 : decode cX3_does 125 = .ok (.goto 240, 3) := by decide +kernel
theorem dX3_does_128 : decode cX3_does 128 = .ok (.aload_n 0, 1) := by decide +kernel
theorem dX3_does_129 : decode cX3_does 129 = .ok (.getfield 13, 3) := by decide +kernel
theorem dX3_does_132 : decode cX3_does 132 = .ok (.iload_n 2, 1) := by decide +kernel
theorem dX3_does_133 : decode cX3_does 133 = .ok (.aload_n 0, 1) := by decide +kernel
theorem dX3_does_134 : decode cX3_does 134 = .ok (.getfield 13, 3) := by decide +kernel
theorem dX3_does_137 : decode cX3_does 137 = .ok (.iload_n 2, 1) := by decide +kernel
theorem dX3_does_138 : decode cX3_does 138 = .ok (.laload, 1) := by decide +kernel
theorem dX3_does_139 : decode cX3_does 139 = .ok (.aload_n 0, 1) := by decide +kernel
theorem dX3_does_140 : decode cX3_does 140 = .ok (.getfield 27, 3) := by decide +kernel
theorem dX3_does_143 : decode cX3_does 143 = .ok (.iload_n 2, 1) := by decide +kernel
theorem dX3_does_144 : decode cX3_does 144 = .ok (.laload, 1) := by decide +kernel
theorem dX3_does_145 : decode cX3_does 145 = .ok (.invokestatic 133, 3) := by decide +kernel
theorem dX3_does_148 : decode cX3_does 148 = .ok (.aload_n 0, 1) := by decide +kernel
theorem dX3_does_149 : decode cX3_does 149 = .ok (.getfield 30, 3) := by decide +kernel
theorem dX3_does_152 : decode cX3_does 152 = .ok (.iload_n 2, 1) := by decide +kernel
theorem dX3_does_153 : decode cX3_does 153 = .ok (.laload, 1) := by decide +kernel
theorem dX3_does_154 : decode cX3_does 154 = .ok (.invokestatic 141, 3) := by decide +kernel
theorem dX3_does_157 : decode cX3_does 157 = .ok (.lastore, 1) := by decide +kernel
theorem dX3_does_158 : decode cX3_does 158 = .ok (.goto 207, 3) := by decide +kernel
theorem dX3_does_161 : decode cX3_does 161 = .ok (.aload_n 0, 1) := by decide +kernel
theorem dX3_does_162 : decode cX3_does 162 = .ok (.iload_n 2, 1) := by decide +kernel
theorem dX3_does_163 : decode cX3_does 163 = .ok (.iload_n 3, 1) := by decide +kernel
theorem dX3_does_164 : decode cX3_does 164 = .ok (.invokevirtual 186, 3) := by decide +kernel
theorem dX3_does_167 : decode cX3_does 167 = .ok (.goto 198, 3) := by decide +kernel
theorem dX3_does_170 : decode cX3_does 170 = .ok (.aload_n 0, 1) := by decide +kernel
theorem dX3_does_171 : decode cX3_does 171 = .ok (.iload_n 2, 1) := by decide +kernel
theorem dX3_does_172 : decode cX3_does 172 = .ok (.invokevirtual 189, 3) := by decide +kernel
theorem dX3_does_175 : decode cX3_does 175 = .ok (.goto 190, 3) := by decide +kernel
theorem dX3_does_178 : decode cX3_does 178 = .ok (.aload_n 0, 1) := by decide +kernel
theorem dX3_does_179 : decode cX3_does 179 = .ok (.getfield 13, 3) := by decide +kernel
theorem dX3_does_182 : decode cX3_does 182 = .ok (.iload_n 2, 1) := by decide +kernel
theorem dX3_does_183 : decode cX3_does 183 = .ok (.iload_n 3, 1) := by decide +kernel
theorem dX3_does_184 : decode cX3_does 184 = .ok (.invokestatic 192, 3) := by decide +kernel
theorem dX3_does_187 : decode cX3_does 187 = .ok (.aload_n 0, 1) := by decide +kernel
theorem dX3_does_188 : decode cX3_does 188 = .ok (.getfield 17, 3) := by decide +kernel
theorem dX3_does_191 : decode cX3_does 191 = .ok (.iload_n 2, 1) := by decide +kernel
theorem dX3_does_192 : decode cX3_does 192 = .ok (.iload_n 3, 1) := by decide +kernel
theorem dX3_does_193 : decode cX3_does 193 = .ok (.invokestatic 196, 3) := by decide +kernel
theorem dX3_does_196 : decode cX3_does 196 = .ok (.aload_n 0, 1) := by decide +kernel
theorem dX3_does_197 : decode cX3_does 197 = .ok (.getfield 21, 3) := by decide +kernel
theorem dX3_does_200 : decode cX3_does 200 = .ok (.iload_n 2, 1) := by decide +kernel
theorem dX3_does_201 : decode cX3_does 201 = .ok (.iload_n 3, 1) := by decide +kernel
theorem dX3_does_202 : decode cX3_does 202 = .ok (.invokestatic 196, 3) := by decide +kernel
theorem dX3_does_205 : decode cX3_does 205 = .ok (.aload_n 0, 1) := by decide +kernel
theorem dX3_does_206 : decode cX3_does 206 = .ok (.getfield 24, 3) := by decide +kernel
theorem dX3_does_209 : decode cX3_does 209 = .ok (.iload_n 2, 1) := by decide +kernel
theorem dX3_does_210 : decode cX3_does 210 = .ok (.iload_n 3, 1) := by decide +kernel
theorem dX3_does_211 : decode cX3_does 211 = .ok (.invokestatic 192, 3) := by decide +kernel
theorem dX3_does_214 : decode cX3_does 214 = .ok (.aload_n 0, 1) := by decide +kernel
theorem dX3_does_215 : decode cX3_does 215 = .ok (.getfield 27, 3) := by decide +kernel
theorem dX3_does_218 : decode cX3_does 218 = .ok (.iload_n 2, 1) := by decide +kernel
theorem dX3_does_219 : decode cX3_does 219 = .ok (.iload_n 3, 1) := by decide +kernel
theorem dX3_does_220 : decode cX3_does 220 = .ok (.invokestatic 192, 3) := by decide +kernel
theorem dX3_does_223 : decode cX3_does 223 = .ok (.aload_n 0, 1) := by decide +kernel
theorem dX3_does_224 : decode cX3_does 224 = .ok (.getfield 30, 3) := by decide +kernel
theorem dX3_does_227 : decode cX3_does 227 = .ok (.iload_n 2, 1) := by decide +kernel
theorem dX3_does_228 : decode cX3_does 228 = .ok (.iload_n 3, 1) := by decide +kernel
theorem dX3_does_229 : decode cX3_does 229 = .ok (.invokestatic 192, 3) := by decide +kernel
theorem dX3_does_232 : decode cX3_does 232 = .ok (.goto 133, 3) := by decide +kernel
theorem dX3_does_235 : decode cX3_does 235 = .ok (.aload_n 0, 1) := by decide +kernel
theorem dX3_does_236 : decode cX3_does 236 = .ok (.iload_n 2, 1) := by decide +kernel
theorem dX3_does_237 : decode cX3_does 237 = .ok (.invokevirtual 200, 3) := by decide +kernel
theorem dX3_does_240 : decode cX3_does 240 = .ok (.goto 125, 3) := by decide +kernel
theorem dX3_does_243 : decode cX3_does 243 = .ok (.aload_n 0, 1) := by decide +kernel
theorem dX3_does_244 : decode cX3_does 244 = .ok (.getfield 13, 3) := by decide +kernel
theorem dX3_does_247 : decode cX3_does 247 = .ok (.iload_n 2, 1) := by decide +kernel
theorem dX3_does_248 : decode cX3_does 248 = .ok (.aload_n 0, 1) := by decide +kernel
theorem dX3_does_249 : decode cX3_does 249 = .ok (.getfield 13, 3) := by decide +kernel
theorem dX3_does_252 : decode cX3_does 252 = .ok (.iload_n 2, 1) := by decide +kernel
theorem dX3_does_253 : decode cX3_does 253 = .ok (.laload, 1) := by decide +kernel
theorem dX3_does_254 : decode cX3_does 254 = .ok (.bipush 52, 2) := by decide +kernel
theorem dX3_does_256 : decode cX3_does 256 = .ok (.invokestatic 203, 3) := by decide +kernel
theorem dX3_does_259 : decode cX3_does 259 = .ok (.lastore, 1) := by decide +kernel
theorem dX3_does_260 : decode cX3_does 260 = .ok (.aload_n 0, 1) := by decide +kernel
theorem dX3_does_261 : decode cX3_does 261 = .ok (.getfield 17, 3) := by decide +kernel
theorem dX3_does_264 : decode cX3_does 264 = .ok (.iload_n 2, 1) := by decide +kernel
theorem dX3_does_265 : decode cX3_does 265 = .ok (.aload_n 0, 1) := by decide +kernel
theorem dX3_does_266 : decode cX3_does 266 = .ok (.getfield 17, 3) := by decide +kernel
theorem dX3_does_269 : decode cX3_does 269 = .ok (.iload_n 2, 1) := by decide +kernel
theorem dX3_does_270 : decode cX3_does 270 = .ok (.iaload, 1) := by decide +kernel
theorem dX3_does_271 : decode cX3_does 271 = .ok (.invokestatic 121, 3) := by decide +kernel
theorem dX3_does_274 : decode cX3_does 274 = .ok (.bipush 23, 2) := by decide +kernel
theorem dX3_does_276 : decode cX3_does 276 = .ok (.invokestatic 203, 3) := by decide +kernel
theorem dX3_does_279 : decode cX3_does 279 = .ok (.l2i, 1) := by decide +kernel
theorem dX3_does_280 : decode cX3_does 280 = .ok (.iastore, 1) := by decide +kernel
theorem dX3_does_281 : decode cX3_does 281 = .ok (.goto 84, 3) := by decide +kernel
theorem dX3_does_284 : decode cX3_does 284 = .ok (.aload_n 0, 1) := by decide +kernel
theorem dX3_does_285 : decode cX3_does 285 = .ok (.getfield 13, 3) := by decide +kernel
theorem dX3_does_288 : decode cX3_does 288 = .ok (.iload_n 2, 1) := by decide +kernel
theorem dX3_does_289 : decode cX3_does 289 = .ok (.aload_n 0, 1) := by decide +kernel
theorem dX3_does_290 : decode cX3_does 290 = .ok (.getfield 13, 3) := by decide +kernel
theorem dX3_does_293 : decode cX3_does 293 = .ok (.iload_n 2, 1) := by decide +kernel
theorem dX3_does_294 : decode cX3_does 294 = .ok (.laload, 1) := by decide +kernel
theorem dX3_does_295 : decode cX3_does 295 = .ok (.bipush 52, 2) := by decide +kernel
theorem dX3_does_297 : decode cX3_does 297 = .ok (.invokestatic 206, 3) := by decide +kernel
theorem dX3_does_300 : decode cX3_does 300 = .ok (.lastore, 1) := by decide +kernel
theorem dX3_does_301 : decode cX3_does 301 = .ok (.aload_n 0, 1) := by decide +kernel
theorem dX3_does_302 : decode cX3_does 302 = .ok (.getfield 17, 3) := by decide +kernel
theorem dX3_does_305 : decode cX3_does 305 = .ok (.iload_n 2, 1) := by decide +kernel
theorem dX3_does_306 : decode cX3_does 306 = .ok (.aload_n 0, 1) := by decide +kernel
theorem dX3_does_307 : decode cX3_does 307 = .ok (.getfield 17, 3) := by decide +kernel
theorem dX3_does_310 : decode cX3_does 310 = .ok (.iload_n 2, 1) := by decide +kernel
theorem dX3_does_311 : decode cX3_does 311 = .ok (.iaload, 1) := by decide +kernel
theorem dX3_does_312 : decode cX3_does 312 = .ok (.invokestatic 121, 3) := by decide +kernel
theorem dX3_does_315 : decode cX3_does 315 = .ok (.bipush 23, 2) := by decide +kernel
theorem dX3_does_317 : decode cX3_does 317 = .ok (.invokestatic 206, 3) := by decide +kernel
theorem dX3_does_320 : decode cX3_does 320 = .ok (.l2i, 1) := by decide +kernel
theorem dX3_does_321 : decode cX3_does 321 = .ok (.iastore, 1) := by decide +kernel
theorem dX3_does_322 : decode cX3_does 322 = .ok (.goto 43, 3) := by decide +kernel
theorem dX3_does_325 : decode cX3_does 325 = .ok (.aload_n 0, 1) := by decide +kernel
theorem dX3_does_326 : decode cX3_does 326 = .ok (.getfield 13, 3) := by decide +kernel
theorem dX3_does_329 : decode cX3_does 329 = .ok (.iload_n 2, 1) := by decide +kernel
theorem dX3_does_330 : decode cX3_does 330 = .ok (.aload_n 0, 1) := by decide +kernel
theorem dX3_does_331 : decode cX3_does 331 = .ok (.getfield 153, 3) := by decide +kernel
theorem dX3_does_334 : decode cX3_does 334 = .ok (.lastore, 1) := by decide +kernel
theorem dX3_does_335 : decode cX3_does 335 = .ok (.aload_n 0, 1) := by decide +kernel
theorem dX3_does_336 : decode cX3_does 336 = .ok (.getfield 17, 3) := by decide +kernel
theorem dX3_does_339 : decode cX3_does 339 = .ok (.iload_n 2, 1) := by decide +kernel
theorem dX3_does_340 : decode cX3_does 340 = .ok (.aload_n 0, 1) := by decide +kernel
theorem dX3_does_341 : decode cX3_does 341 = .ok (.getfield 157, 3) := by decide +kernel
theorem dX3_does_344 : decode cX3_does 344 = .ok (.iastore, 1) := by decide +kernel
theorem dX3_does_345 : decode cX3_does 345 = .ok (.aload_n 0, 1) := by decide +kernel
theorem dX3_does_346 : decode cX3_does 346 = .ok (.getfield 21, 3) := by decide +kernel
theorem dX3_does_349 : decode cX3_does 349 = .ok (.iload_n 2, 1) := by decide +kernel
theorem dX3_does_350 : decode cX3_does 350 = .ok (.aload_n 0, 1) := by decide +kernel
theorem dX3_does_351 : decode cX3_does 351 = .ok (.getfield 161, 3) := by decide +kernel
theorem dX3_does_354 : decode cX3_does 354 = .ok (.iastore, 1) := by decide +kernel
theorem dX3_does_355 : decode cX3_does 355 = .ok (.aload_n 0, 1) := by decide +kernel
theorem dX3_does_356 : decode cX3_does 356 = .ok (.getfield 24, 3) := by decide +kernel
theorem dX3_does_359 : decode cX3_does 359 = .ok (.iload_n 2, 1) := by decide +kernel
theorem dX3_does_360 : decode cX3_does 360 = .ok (.aload_n 0, 1) := by decide +kernel
theorem dX3_does_361 : decode cX3_does 361 = .ok (.getfield 164, 3) := by decide +kernel
theorem dX3_does_364 : decode cX3_does 364 = .ok (.lastore, 1) := by decide +kernel
theorem dX3_does_365 : decode cX3_does 365 = .ok (.return_, 1) := by decide +kernel
set_option maxRecDepth 20000 in
theorem ggX3_moved_X3_does : GoodIn wsX3_moved wsX3_does := goodIn_r _ [13, 2, 14, 15, 4, 6, 8, 16, 17, 18, 19, 20, 21, 22, 12, 23, 24, 25, 26, 27, 28, 29, 30, 31, 32, 33, 34, 35, 36, 37, 38, 39, 40, 41, 42, 43, 44, 45, 46, 47, 48, 49, 50, 51, 52, 53, 54, 55, 56, 57, 58, 59, 60, 61, 62, 63, 64, 65, 66, 67, 68, 69, 70, 71, 72, 73, 74, 75, 76, 77, 78, 79, 80, 81, 82, 83, 84, 85, 86, 87, 88, 89, 90, 91, 92, 93, 94, 95, 96, 97, 98, 99, 100, 101, 102, 103, 104, 105, 106, 107, 108, 109, 110, 111, 112, 113, 114, 115, 116, 117, 118, 119, 120, 121, 122, 123, 124, 125, 126, 127, 128, 129, 130, 131, 132, 133, 134, 135, 136, 137, 138, 139, 140, 141, 142, 143, 144, 145, 146, 147, 148, 149] (by decide +kernel) (by decide +kernel)
set_option maxRecDepth 20000 in
theorem gX3_moved_X3_does : GoodIn wsX3_moved (wsV RX3 209 RX3 yX3_does wsX3_does) := goodIn_app (goodIn_of _ (by decide +kernel)) ggX3_moved_X3_does
theorem dX3_moved_0 : decode cX3_moved 0 = .ok (.iconst 0, 1) := by decide +kernel
theorem dX3_moved_1 : decode cX3_moved 1 = .ok (.istore 5, 2) := by decide +kernel
theorem dX3_moved_3 : decode cX3_moved 3 = .ok (.iload 5, 2) := by decide +kernel
theorem dX3_moved_5 : decode cX3_moved 5 = .ok (.bipush 8, 2) := by decide +kernel
theorem dX3_moved_7 : decode cX3_moved 7 = .ok (.if_icmp .ge 65, 3) := by decide +kernel
theorem dX3_moved_10 : decode cX3_moved 10 = .ok (.aload_n 0, 1) := by decide +kernel
theorem dX3_moved_11 : decode cX3_moved 11 = .ok (.getfield 39, 3) := by decide +kernel
theorem dX3_moved_14 : decode cX3_moved 14 = .ok (.iload 5, 2) := by decide +kernel
theorem dX3_moved_16 : decode cX3_moved 16 = .ok (.aload_n 0, 1) := by decide +kernel
theorem dX3_moved_17 : decode cX3_moved 17 = .ok (.getfield 13, 3) := by decide +kernel
theorem dX3_moved_20 : decode cX3_moved 20 = .ok (.iload 5, 2) := by decide +kernel
theorem dX3_moved_22 : decode cX3_moved 22 = .ok (.laload, 1) := by decide +kernel
theorem dX3_moved_23 : decode cX3_moved 23 = .ok (.lastore, 1) := by decide +kernel
theorem dX3_moved_24 : decode cX3_moved 24 = .ok (.aload_n 0, 1) := by decide +kernel
theorem dX3_moved_25 : decode cX3_moved 25 = .ok (.getfield 42, 3) := by decide +kernel
theorem dX3_moved_28 : decode cX3_moved 28 = .ok (.iload 5, 2) := by decide +kernel
theorem dX3_moved_30 : decode cX3_moved 30 = .ok (.aload_n 0, 1) := by decide +kernel
theorem dX3_moved_31 : decode cX3_moved 31 = .ok (.getfield 17, 3) := by decide +kernel
theorem dX3_moved_34 : decode cX3_moved 34 = .ok (.iload 5, 2) := by decide +kernel
theorem dX3_moved_36 : decode cX3_moved 36 = .ok (.iaload, 1) := by decide +kernel
theorem dX3_moved_37 : decode cX3_moved 37 = .ok (.iastore, 1) := by decide +kernel
theorem dX3_moved_38 : decode cX3_moved 38 = .ok (.aload_n 0, 1) := by decide +kernel
theorem dX3_moved_39 : decode cX3_moved 39 = .ok (.getfield 45, 3) := by decide +kernel
theorem dX3_moved_42 : decode cX3_moved 42 = .ok (.iload 5, 2) := by decide +kernel
theorem dX3_moved_44 : decode cX3_moved 44 = .ok (.aload_n 0, 1) := by decide +kernel
theorem dX3_moved_45 : decode cX3_moved 45 = .ok (.getfield 21, 3) := by decide +kernel
theorem dX3_moved_48 : decode cX3_moved 48 = .ok (.iload 5, 2) := by decide +kernel
theorem dX3_moved_50 : decode cX3_moved 50 = .ok (.iaload, 1) := by decide +kernel
theorem dX3_moved_51 : decode cX3_moved 51 = .ok (.iastore, 1) := by decide +kernel
theorem dX3_moved_52 : decode cX3_moved 52 = .ok (.aload_n 0, 1) := by decide +kernel
theorem dX3_moved_53 : decode cX3_moved 53 = .ok (.getfield 48, 3) := by decide +kernel
theorem dX3_moved_56 : decode cX3_moved 56 = .ok (.iload 5, 2) := by decide +kernel
theorem dX3_moved_58 : decode cX3_moved 58 = .ok (.aload_n 0, 1) := by decide +kernel
theorem dX3_moved_59 : decode cX3_moved 59 = .ok (.getfield 24, 3) := by decide +kernel
theorem dX3_moved_62 : decode cX3_moved 62 = .ok (.iload 5, 2) := by decide +kernel
theorem dX3_moved_64 : decode cX3_moved 64 = .ok (.laload, 1) := by decide +kernel
theorem dX3_moved_65 : decode cX3_moved 65 = .ok (.lastore, 1) := by decide +kernel
theorem dX3_moved_66 : decode cX3_moved 66 = .ok (.iinc 5 1, 3) := by decide +kernel
theorem dX3_moved_69 : decode cX3_moved 69 = .ok (.goto (-66), 3) := by decide +kernel
theorem dX3_moved_72 : decode cX3_moved 72 = .ok (.aload_n 0, 1) := by decide +kernel
theorem dX3_moved_73 : decode cX3_moved 73 = .ok (.iload_n 1, 1) := by decide +kernel
theorem dX3_moved_74 : decode cX3_moved 74 = .ok (.iload_n 2, 1) := by decide +kernel
theorem dX3_moved_75 : decode cX3_moved 75 = .ok (.iload_n 3, 1) := by decide +kernel
theorem dX3_moved_76 : decode cX3_moved 76 = .ok (.invokevirtual 209, 3) := by decide +kernel
theorem dX3_moved_79 : decode cX3_moved 79 = .ok (.iconst 0, 1) := by decide +kernel
theorem dX3_moved_80 : decode cX3_moved 80 = .ok (.istore 5, 2) := by decide +kernel
theorem dX3_moved_82 : decode cX3_moved 82 = .ok (.iconst 0, 1) := by decide +kernel
theorem dX3_moved_83 : decode cX3_moved 83 = .ok (.istore 6, 2) := by decide +kernel
theorem dX3_moved_85 : decode cX3_moved 85 = .ok (.iload 6, 2) := by decide +kernel
theorem dX3_moved_87 : decode cX3_moved 87 = .ok (.bipush 8, 2) := by decide +kernel
theorem dX3_moved_89 : decode cX3_moved 89 = .ok (.if_icmp .ge 159, 3) := by decide +kernel
theorem dX3_moved_92 : decode cX3_moved 92 = .ok (.aload_n 0, 1) := by decide +kernel
theorem dX3_moved_93 : decode cX3_moved 93 = .ok (.getfield 13, 3) := by decide +kernel
theorem dX3_moved_96 : decode cX3_moved 96 = .ok (.iload 6, 2) := by decide +kernel
theorem dX3_moved_98 : decode cX3_moved 98 = .ok (.laload, 1) := by decide +kernel
theorem dX3_moved_99 : decode cX3_moved 99 = .ok (.aload_n 0, 1) := by decide +kernel
theorem dX3_moved_100 : decode cX3_moved 100 = .ok (.getfield 39, 3) := by decide +kernel
theorem dX3_moved_103 : decode cX3_moved 103 = .ok (.iload 6, 2) := by decide +kernel
theorem dX3_moved_105 : decode cX3_moved 105 = .ok (.laload, 1) := by decide +kernel
theorem dX3_moved_106 : decode cX3_moved 106 = .ok (.lcmp, 1) := by decide +kernel
theorem dX3_moved_107 : decode cX3_moved 107 = .ok (.ifCond .eq 7, 3) := by decide +kernel
theorem dX3_moved_110 : decode cX3_moved 110 = .ok (.iconst 1, 1) := by decide +kernel
theorem dX3_moved_111 : decode cX3_moved 111 = .ok (.goto 4, 3) := by decide +kernel
theorem dX3_moved_114 : decode cX3_moved 114 = .ok (.iconst 0, 1) := by decide +kernel
theorem dX3_moved_115 : decode cX3_moved 115 = .ok (.istore 7, 2) := by decide +kernel
theorem dX3_moved_117 : decode cX3_moved 117 = .ok (.aload_n 0, 1) := by decide +kernel
theorem dX3_moved_118 : decode cX3_moved 118 = .ok (.getfield 17, 3) := by decide +kernel
theorem dX3_moved_121 : decode cX3_moved 121 = .ok (.iload 6, 2) := by decide +kernel
theorem dX3_moved_123 : decode cX3_moved 123 = .ok (.iaload, 1) := by decide +kernel
theorem dX3_moved_124 : decode cX3_moved 124 = .ok (.aload_n 0, 1) := by decide +kernel
theorem dX3_moved_125 : decode cX3_moved 125 = .ok (.getfield 42, 3) := by decide +kernel
theorem dX3_moved_128 : decode cX3_moved 128 = .ok (.iload 6, 2) := by decide +kernel
theorem dX3_moved_130 : decode cX3_moved 130 = .ok (.iaload, 1) := by decide +kernel
theorem dX3_moved_131 : decode cX3_moved 131 = .ok (.if_icmp .eq 7, 3) := by decide +kernel
theorem dX3_moved_134 : decode cX3_moved 134 = .ok (.iconst 1, 1) := by decide +kernel
theorem dX3_moved_135 : decode cX3_moved 135 = .ok (.goto 4, 3) := by decide +kernel
theorem dX3_moved_138 : decode cX3_moved 138 = .ok (.iconst 0, 1) := by decide +kernel
theorem dX3_moved_139 : decode cX3_moved 139 = .ok (.istore 8, 2) := by decide +kernel
theorem dX3_moved_141 : decode cX3_moved 141 = .ok (.aload_n 0, 1) := by decide +kernel
theorem dX3_moved_142 : decode cX3_moved 142 = .ok (.getfield 21, 3) := by decide +kernel
theorem dX3_moved_145 : decode cX3_moved 145 = .ok (.iload 6, 2) := by decide +kernel
theorem dX3_moved_147 : decode cX3_moved 147 = .ok (.iaload, 1) := by decide +kernel
theorem dX3_moved_148 : decode cX3_moved 148 = .ok (.aload_n 0, 1) := by decide +kernel
theorem dX3_moved_149 : decode cX3_moved 149 = .ok (.getfield 45, 3) := by decide +kernel
theorem dX3_moved_152 : decode cX3_moved 152 = .ok (.iload 6, 2) := by decide +kernel
theorem dX3_moved_154 : decode cX3_moved 154 = .ok (.iaload, 1) := by decide +kernel
theorem dX3_moved_155 : decode cX3_moved 155 = .ok (.if_icmp .eq 7, 3) := by decide +kernel
theorem dX3_moved_158 : decode cX3_moved 158 = .ok (.iconst 1, 1) := by decide +kernel
theorem dX3_moved_159 : decode cX3_moved 159 = .ok (.goto 4, 3) := by decide +kernel
theorem dX3_moved_162 : decode cX3_moved 162 = .ok (.iconst 0, 1) := by decide +kernel
theorem dX3_moved_163 : decode cX3_moved 163 = .ok (.istore 9, 2) := by decide +kernel
theorem dX3_moved_165 : decode cX3_moved 165 = .ok (.aload_n 0, 1) := by decide +kernel
theorem dX3_moved_166 : decode cX3_moved 166 = .ok (.getfield 24, 3) := by decide +kernel
theorem dX3_moved_169 : decode cX3_moved 169 = .ok (.iload 6, 2) := by decide +kernel
theorem dX3_moved_171 : decode cX3_moved 171 = .ok (.laload, 1) := by decide +kernel
theorem dX3_moved_172 : decode cX3_moved 172 = .ok (.aload_n 0, 1) := by decide +kernel
theorem dX3_moved_173 : decode cX3_moved 173 = .ok (.getfield 48, 3) := by decide +kernel
theorem dX3_moved_176 : decode cX3_moved 176 = .ok (.iload 6, 2) := by decide +kernel
theorem dX3_moved_178 : decode cX3_moved 178 = .ok (.laload, 1) := by decide +kernel
theorem dX3_moved_179 : decode cX3_moved 179 = .ok (.lcmp, 1) := by decide +kernel
theorem dX3_moved_180 : decode cX3_moved 180 = .ok (.ifCond .eq 7, 3) := by decide +kernel
theorem dX3_moved_183 : decode cX3_moved 183 = .ok (.iconst 1, 1) := by decide +kernel
theorem dX3_moved_184 : decode cX3_moved 184 = .ok (.goto 4, 3) := by decide +kernel
theorem dX3_moved_187 : decode cX3_moved 187 = .ok (.iconst 0, 1) := by decide +kernel
theorem dX3_moved_188 : decode cX3_moved 188 = .ok (.istore 10, 2) := by decide +kernel
theorem dX3_moved_190 : decode cX3_moved 190 = .ok (.aload 4, 2) := by decide +kernel
theorem dX3_moved_192 : decode cX3_moved 192 = .ok (.iconst 0, 1) := by decide +kernel
theorem dX3_moved_193 : decode cX3_moved 193 = .ok (.dup2, 1) := by decide +kernel
theorem dX3_moved_194 : decode cX3_moved 194 = .ok (.iaload, 1) := by decide +kernel
theorem dX3_moved_195 : decode cX3_moved 195 = .ok (.iload 7, 2) := by decide +kernel
theorem dX3_moved_197 : decode cX3_moved 197 = .ok (.iadd, 1) := by decide +kernel
theorem dX3_moved_198 : decode cX3_moved 198 = .ok (.iastore, 1) := by decide +kernel
theorem dX3_moved_199 : decode cX3_moved 199 = .ok (.aload 4, 2) := by decide +kernel
theorem dX3_moved_201 : decode cX3_moved 201 = .ok (.iconst 1, 1) := by decide +kernel
theorem dX3_moved_202 : decode cX3_moved 202 = .ok (.dup2, 1) := by decide +kernel
theorem dX3_moved_203 : decode cX3_moved 203 = .ok (.iaload, 1) := by decide +kernel
theorem dX3_moved_204 : decode cX3_moved 204 = .ok (.iload 8, 2) := by decide +kernel
theorem dX3_moved_206 : decode cX3_moved 206 = .ok (.iadd, 1) := by decide +kernel
theorem dX3_moved_207 : decode cX3_moved 207 = .ok (.iastore, 1) := by decide +kernel
theorem dX3_moved_208 : decode cX3_moved 208 = .ok (.aload 4, 2) := by decide +kernel
theorem dX3_moved_210 : decode cX3_moved 210 = .ok (.iconst 2, 1) := by decide +kernel
theorem dX3_moved_211 : decode cX3_moved 211 = .ok (.dup2, 1) := by decide +kernel
theorem dX3_moved_212 : decode cX3_moved 212 = .ok (.iaload, 1) := by decide +kernel
theorem dX3_moved_213 : decode cX3_moved 213 = .ok (.iload 9, 2) := by decide +kernel
theorem dX3_moved_215 : decode cX3_moved 215 = .ok (.iadd, 1) := by decide +kernel
theorem dX3_moved_216 : decode cX3_moved 216 = .ok (.iastore, 1) := by decide +kernel
theorem dX3_moved_217 : decode cX3_moved 217 = .ok (.aload 4, 2) := by decide +kernel
theorem dX3_moved_219 : decode cX3_moved 219 = .ok (.iconst 3, 1) := by decide +kernel
theorem dX3_moved_220 : decode cX3_moved 220 = .ok (.dup2, 1) := by decide +kernel
theorem dX3_moved_221 : decode cX3_moved 221 = .ok (.iaload, 1) := by decide +kernel
theorem dX3_moved_222 : decode cX3_moved 222 = .ok (.iload 10, 2) := by decide +kernel
theorem dX3_moved_224 : decode cX3_moved 224 = .ok (.iadd, 1) := by decide +kernel
theorem dX3_moved_225 : decode cX3_moved 225 = .ok (.iastore, 1) := by decide +kernel
theorem dX3_moved_226 : decode cX3_moved 226 = .ok (.iload 5, 2) := by decide +kernel
theorem dX3_moved_228 : decode cX3_moved 228 = .ok (.iload 7, 2) := by decide +kernel
theorem dX3_moved_230 : decode cX3_moved 230 = .ok (.iload 8, 2) := by decide +kernel
theorem dX3_moved_232 : decode cX3_moved 232 = .ok (.iadd, 1) := by decide +kernel
theorem dX3_moved_233 : decode cX3_moved 233 = .ok (.iload 9, 2) := by decide +kernel
theorem dX3_moved_235 : decode cX3_moved 235 = .ok (.iadd, 1) := by decide +kernel
theorem dX3_moved_236 : decode cX3_moved 236 = .ok (.iload 10, 2) := by decide +kernel
theorem dX3_moved_238 : decode cX3_moved 238 = .ok (.iadd, 1) := by decide +kernel
theorem dX3_moved_239 : decode cX3_moved 239 = .ok (.iadd, 1) := by decide +kernel
theorem dX3_moved_240 : decode cX3_moved 240 = .ok (.istore 5, 2) := by decide +kernel
theorem dX3_moved_242 : decode cX3_moved 242 = .ok (.iinc 6 1, 3) := by decide +kernel
theorem dX3_moved_245 : decode cX3_moved 245 = .ok (.goto (-160), 3) := by decide +kernel
theorem dX3_moved_248 : decode cX3_moved 248 = .ok (.iload 5, 2) := by decide +kernel
theorem dX3_moved_250 : decode cX3_moved 250 = .ok (.ireturn, 1) := by decide +kernel
set_option maxRecDepth 20000 in
theorem ggX3_move_X3_lackOf : GoodIn wsX3_move wsX3_lackOf := goodIn_r _ [7, 8, 9, 10, 6, 11, 12, 13, 14, 15, 16, 17, 18, 150, 151, 152, 153, 154, 155, 156, 157, 158, 159, 160, 161, 162, 163, 164, 165, 166, 167, 168, 169, 170] (by decide +kernel) (by decide +kernel)
set_option maxRecDepth 20000 in
theorem gX3_move_X3_lackOf : GoodIn wsX3_move (wsV RX3 213 RX3 yX3_lackOf wsX3_lackOf) := goodIn_app (goodIn_of _ (by decide +kernel)) ggX3_move_X3_lackOf
set_option maxRecDepth 20000 in
theorem ggX3_move_X3_moved : GoodIn wsX3_move wsX3_moved := goodIn_r _ [22, 23, 24, 25, 26, 27, 28, 29, 30, 31, 32, 33, 6, 34, 35, 36, 37, 38, 39, 40, 41, 42, 43, 44, 45, 46, 47, 48, 49, 50, 51, 52, 53, 54, 55, 56, 57, 58, 59, 60, 61, 62, 63, 64, 65, 66, 67, 68, 69, 70, 71, 72, 73, 74, 75, 76, 77, 78, 79, 80, 81, 82, 83, 84, 85, 86, 87, 88, 89, 90, 91, 92, 93, 94, 95, 96, 97, 98, 99, 100, 101, 102, 103, 104, 105, 106, 107, 108, 109, 110, 111, 112, 113, 114, 115, 116, 117, 118, 119, 120, 121, 122, 123, 124, 125, 126, 127, 128, 129, 130, 131, 132, 133, 134, 135, 136, 137, 138, 139, 140, 141, 142, 143, 144, 145, 146, 147, 148, 149, 150, 151, 152, 153, 154, 155, 156, 157, 158, 159, 160, 161, 162, 163, 164, 165, 166, 167, 168, 169, 170] (by decide +kernel) (by decide +kernel)
set_option maxRecDepth 20000 in
theorem gX3_move_X3_moved : GoodIn wsX3_move (wsV RX3 217 RX3 yX3_moved wsX3_moved) := goodIn_app (goodIn_of _ (by decide +kernel)) ggX3_move_X3_moved
theorem dX3_move_0 : decode cX3_move 0 = .ok (.aload_n 0, 1) := by decide +kernel
theorem dX3_move_1 : decode cX3_move 1 = .ok (.aload_n 0, 1) := by decide +kernel
theorem dX3_move_2 : decode cX3_move 2 = .ok (.iload_n 1, 1) := by decide +kernel
theorem dX3_move_3 : decode cX3_move 3 = .ok (.iload_n 2, 1) := by decide +kernel
theorem dX3_move_4 : decode cX3_move 4 = .ok (.iload_n 3, 1) := by decide +kernel
theorem dX3_move_5 : decode cX3_move 5 = .ok (.invokevirtual 213, 3) := by decide +kernel
theorem dX3_move_8 : decode cX3_move 8 = .ok (.putfield 114, 3) := by decide +kernel
theorem dX3_move_11 : decode cX3_move 11 = .ok (.aload_n 0, 1) := by decide +kernel
theorem dX3_move_12 : decode cX3_move 12 = .ok (.getfield 114, 3) := by decide +kernel
theorem dX3_move_15 : decode cX3_move 15 = .ok (.ifCond .le 7, 3) := by decide +kernel
theorem dX3_move_18 : decode cX3_move 18 = .ok (.iconst (-1), 1) := by decide +kernel
theorem dX3_move_19 : decode cX3_move 19 = .ok (.goto 14, 3) := by decide +kernel
theorem dX3_move_22 : decode cX3_move 22 = .ok (.aload_n 0, 1) := by decide +kernel
theorem dX3_move_23 : decode cX3_move 23 = .ok (.iload_n 1, 1) := by decide +kernel
theorem dX3_move_24 : decode cX3_move 24 = .ok (.iload_n 2, 1) := by decide +kernel
theorem dX3_move_25 : decode cX3_move 25 = .ok (.iload_n 3, 1) := by decide +kernel
theorem dX3_move_26 : decode cX3_move 26 = .ok (.aload_n 0, 1) := by decide +kernel
theorem dX3_move_27 : decode cX3_move 27 = .ok (.getfield 51, 3) := by decide +kernel
theorem dX3_move_30 : decode cX3_move 30 = .ok (.invokevirtual 217, 3) := by decide +kernel
theorem dX3_move_33 : decode cX3_move 33 = .ok (.ireturn, 1) := by decide +kernel
theorem dX3_step_0 : decode cX3_step 0 = .ok (.aload_n 0, 1) := by decide +kernel
theorem dX3_step_1 : decode cX3_step 1 = .ok (.getfield 221, 3) := by decide +kernel
theorem dX3_step_4 : decode cX3_step 4 = .ok (.bipush 40, 2) := by decide +kernel
theorem dX3_step_6 : decode cX3_step 6 = .ok (.if_icmp .ne 5, 3) := by decide +kernel
theorem dX3_step_9 : decode cX3_step 9 = .ok (.iconst (-1), 1) := by decide +kernel
theorem dX3_step_10 : decode cX3_step 10 = .ok (.ireturn, 1) := by decide +kernel
theorem dX3_step_11 : decode cX3_step 11 = .ok (.aload_n 0, 1) := by decide +kernel
theorem dX3_step_12 : decode cX3_step 12 = .ok (.getfield 33, 3) := by decide +kernel
theorem dX3_step_15 : decode cX3_step 15 = .ok (.iconst 3, 1) := by decide +kernel
theorem dX3_step_16 : decode cX3_step 16 = .ok (.aload_n 0, 1) := by decide +kernel
theorem dX3_step_17 : decode cX3_step 17 = .ok (.getfield 221, 3) := by decide +kernel
theorem dX3_step_20 : decode cX3_step 20 = .ok (.imul, 1) := by decide +kernel
theorem dX3_step_21 : decode cX3_step 21 = .ok (.iload_n 1, 1) := by decide +kernel
theorem dX3_step_22 : decode cX3_step 22 = .ok (.iastore, 1) := by decide +kernel
theorem dX3_step_23 : decode cX3_step 23 = .ok (.aload_n 0, 1) := by decide +kernel
theorem dX3_step_24 : decode cX3_step 24 = .ok (.getfield 33, 3) := by decide +kernel
theorem dX3_step_27 : decode cX3_step 27 = .ok (.iconst 3, 1) := by decide +kernel
theorem dX3_step_28 : decode cX3_step 28 = .ok (.aload_n 0, 1) := by decide +kernel
theorem dX3_step_29 : decode cX3_step 29 = .ok (.getfield 221, 3) := by decide +kernel
theorem dX3_step_32 : decode cX3_step 32 = .ok (.imul, 1) := by decide +kernel
theorem dX3_step_33 : decode cX3_step 33 = .ok (.iconst 1, 1) := by decide +kernel
theorem dX3_step_34 : decode cX3_step 34 = .ok (.iadd, 1) := by decide +kernel
theorem dX3_step_35 : decode cX3_step 35 = .ok (.iload_n 2, 1) := by decide +kernel
theorem dX3_step_36 : decode cX3_step 36 = .ok (.iastore, 1) := by decide +kernel
theorem dX3_step_37 : decode cX3_step 37 = .ok (.aload_n 0, 1) := by decide +kernel
theorem dX3_step_38 : decode cX3_step 38 = .ok (.getfield 33, 3) := by decide +kernel
theorem dX3_step_41 : decode cX3_step 41 = .ok (.iconst 3, 1) := by decide +kernel
theorem dX3_step_42 : decode cX3_step 42 = .ok (.aload_n 0, 1) := by decide +kernel
theorem dX3_step_43 : decode cX3_step 43 = .ok (.getfield 221, 3) := by decide +kernel
theorem dX3_step_46 : decode cX3_step 46 = .ok (.imul, 1) := by decide +kernel
theorem dX3_step_47 : decode cX3_step 47 = .ok (.iconst 2, 1) := by decide +kernel
theorem dX3_step_48 : decode cX3_step 48 = .ok (.iadd, 1) := by decide +kernel
theorem dX3_step_49 : decode cX3_step 49 = .ok (.iload_n 3, 1) := by decide +kernel
theorem dX3_step_50 : decode cX3_step 50 = .ok (.iastore, 1) := by decide +kernel
theorem dX3_step_51 : decode cX3_step 51 = .ok (.aload_n 0, 1) := by decide +kernel
theorem dX3_step_52 : decode cX3_step 52 = .ok (.dup, 1) := by decide +kernel
theorem dX3_step_53 : decode cX3_step 53 = .ok (.getfield 221, 3) := by decide +kernel
theorem dX3_step_56 : decode cX3_step 56 = .ok (.iconst 1, 1) := by decide +kernel
theorem dX3_step_57 : decode cX3_step 57 = .ok (.iadd, 1) := by decide +kernel
theorem dX3_step_58 : decode cX3_step 58 = .ok (.putfield 221, 3) := by decide +kernel
theorem dX3_step_61 : decode cX3_step 61 = .ok (.aload_n 0, 1) := by decide +kernel
theorem dX3_step_62 : decode cX3_step 62 = .ok (.getfield 221, 3) := by decide +kernel
theorem dX3_step_65 : decode cX3_step 65 = .ok (.ireturn, 1) := by decide +kernel
theorem dX3_forget_0 : decode cX3_forget 0 = .ok (.aload_n 0, 1) := by decide +kernel
theorem dX3_forget_1 : decode cX3_forget 1 = .ok (.getfield 221, 3) := by decide +kernel
end
section
theorem dX3_forget_4 : decode cX3_forget 4 = .ok (.istore_n 1, 1) := by decide +kernel
theorem dX3_forget_5 : decode cX3_forget 5 = .ok (.aload_n 0, 1) := by decide +kernel
theorem dX3_forget_6 : decode cX3_forget 6 = .ok (.iconst 0, 1) := by decide +kernel
theorem dX3_forget_7 : decode cX3_forget 7 = .ok (.putfield 221, 3) := by decide +kernel
theorem dX3_forget_10 : decode cX3_forget 10 = .ok (.iload_n 1, 1) := by decide +kernel
theorem dX3_forget_11 : decode cX3_forget 11 = .ok (.ireturn, 1) := by decide +kernel
set_option maxRecDepth 20000 in
theorem ggX3_dance_X3_lackOf : GoodIn wsX3_dance wsX3_lackOf := goodIn_r _ [10, 11, 12, 13, 9, 14, 15, 16, 17, 18, 19, 20, 21, 153, 154, 155, 156, 157, 158, 159, 160, 161, 162, 163, 164, 165, 166, 167, 168, 169, 170, 171, 172, 173] (by decide +kernel) (by decide +kernel)
set_option maxRecDepth 20000 in
theorem gX3_dance_X3_lackOf : GoodIn wsX3_dance (wsV RX3 213 RX3 yX3_lackOf wsX3_lackOf) := goodIn_app (goodIn_of _ (by decide +kernel)) ggX3_dance_X3_lackOf
set_option maxRecDepth 20000 in
theorem ggX3_dance_X3_moved : GoodIn wsX3_dance wsX3_moved := goodIn_r _ [25, 26, 27, 28, 29, 30, 31, 32, 33, 34, 35, 36, 9, 37, 38, 39, 40, 41, 42, 43, 44, 45, 46, 47, 48, 49, 50, 51, 52, 53, 54, 55, 56, 57, 58, 59, 60, 61, 62, 63, 64, 65, 66, 67, 68, 69, 70, 71, 72, 73, 74, 75, 76, 77, 78, 79, 80, 81, 82, 83, 84, 85, 86, 87, 88, 89, 90, 91, 92, 93, 94, 95, 96, 97, 98, 99, 100, 101, 102, 103, 104, 105, 106, 107, 108, 109, 110, 111, 112, 113, 114, 115, 116, 117, 118, 119, 120, 121, 122, 123, 124, 125, 126, 127, 128, 129, 130, 131, 132, 133, 134, 135, 136, 137, 138, 139, 140, 141, 142, 143, 144, 145, 146, 147, 148, 149, 150, 151, 152, 153, 154, 155, 156, 157, 158, 159, 160, 161, 162, 163, 164, 165, 166, 167, 168, 169, 170, 171, 172, 173] (by decide +kernel) (by decide +kernel)
set_option maxRecDepth 20000 in
theorem gX3_dance_X3_moved : GoodIn wsX3_dance (wsV RX3 217 RX3 yX3_moved wsX3_moved) := goodIn_app (goodIn_of _ (by decide +kernel)) ggX3_dance_X3_moved
theorem dX3_dance_0 : decode cX3_dance 0 = .ok (.aload_n 0, 1) := by decide +kernel
theorem dX3_dance_1 : decode cX3_dance 1 = .ok (.iconst 0, 1) := by decide +kernel
theorem dX3_dance_2 : decode cX3_dance 2 = .ok (.putfield 114, 3) := by decide +kernel
theorem dX3_dance_5 : decode cX3_dance 5 = .ok (.iload_n 1, 1) := by decide +kernel
theorem dX3_dance_6 : decode cX3_dance 6 = .ok (.ifCond .lt 9, 3) := by decide +kernel
theorem dX3_dance_9 : decode cX3_dance 9 = .ok (.iload_n 1, 1) := by decide +kernel
theorem dX3_dance_10 : decode cX3_dance 10 = .ok (.bipush 50, 2) := by decide +kernel
theorem dX3_dance_12 : decode cX3_dance 12 = .ok (.if_icmp .le 5, 3) := by decide +kernel
theorem dX3_dance_15 : decode cX3_dance 15 = .ok (.iconst (-1), 1) := by decide +kernel
theorem dX3_dance_16 : decode cX3_dance 16 = .ok (.ireturn, 1) := by decide +kernel
theorem dX3_dance_17 : decode cX3_dance 17 = .ok (.aload_n 0, 1) := by decide +kernel
theorem dX3_dance_18 : decode cX3_dance 18 = .ok (.iconst (-1), 1) := by decide +kernel
theorem dX3_dance_19 : decode cX3_dance 19 = .ok (.putfield 224, 3) := by decide +kernel
theorem dX3_dance_22 : decode cX3_dance 22 = .ok (.iconst 0, 1) := by decide +kernel
theorem dX3_dance_23 : decode cX3_dance 23 = .ok (.istore_n 2, 1) := by decide +kernel
theorem dX3_dance_24 : decode cX3_dance 24 = .ok (.iload_n 2, 1) := by decide +kernel
theorem dX3_dance_25 : decode cX3_dance 25 = .ok (.iconst 4, 1) := by decide +kernel
theorem dX3_dance_26 : decode cX3_dance 26 = .ok (.if_icmp .ge 16, 3) := by decide +kernel
theorem dX3_dance_29 : decode cX3_dance 29 = .ok (.aload_n 0, 1) := by decide +kernel
theorem dX3_dance_30 : decode cX3_dance 30 = .ok (.getfield 36, 3) := by decide +kernel
theorem dX3_dance_33 : decode cX3_dance 33 = .ok (.iload_n 2, 1) := by decide +kernel
theorem dX3_dance_34 : decode cX3_dance 34 = .ok (.iconst 0, 1) := by decide +kernel
theorem dX3_dance_35 : decode cX3_dance 35 = .ok (.iastore, 1) := by decide +kernel
theorem dX3_dance_36 : decode cX3_dance 36 = .ok (.iinc 2 1, 3) := by decide +kernel
theorem dX3_dance_39 : decode cX3_dance 39 = .ok (.goto (-15), 3) := by decide +kernel
theorem dX3_dance_42 : decode cX3_dance 42 = .ok (.iconst 0, 1) := by decide +kernel
theorem dX3_dance_43 : decode cX3_dance 43 = .ok (.istore_n 2, 1) := by decide +kernel
theorem dX3_dance_44 : decode cX3_dance 44 = .ok (.iconst 0, 1) := by decide +kernel
theorem dX3_dance_45 : decode cX3_dance 45 = .ok (.istore_n 3, 1) := by decide +kernel
theorem dX3_dance_46 : decode cX3_dance 46 = .ok (.iload_n 3, 1) := by decide +kernel
theorem dX3_dance_47 : decode cX3_dance 47 = .ok (.iload_n 1, 1) := by decide +kernel
theorem dX3_dance_48 : decode cX3_dance 48 = .ok (.aload_n 0, 1) := by decide +kernel
theorem dX3_dance_49 : decode cX3_dance 49 = .ok (.getfield 221, 3) := by decide +kernel
theorem dX3_dance_52 : decode cX3_dance 52 = .ok (.imul, 1) := by decide +kernel
theorem dX3_dance_53 : decode cX3_dance 53 = .ok (.if_icmp .ge 115, 3) := by decide +kernel
theorem dX3_dance_56 : decode cX3_dance 56 = .ok (.iload_n 3, 1) := by decide +kernel
theorem dX3_dance_57 : decode cX3_dance 57 = .ok (.aload_n 0, 1) := by decide +kernel
theorem dX3_dance_58 : decode cX3_dance 58 = .ok (.getfield 221, 3) := by decide +kernel
theorem dX3_dance_61 : decode cX3_dance 61 = .ok (.irem, 1) := by decide +kernel
theorem dX3_dance_62 : decode cX3_dance 62 = .ok (.istore 4, 2) := by decide +kernel
theorem dX3_dance_64 : decode cX3_dance 64 = .ok (.aload_n 0, 1) := by decide +kernel
theorem dX3_dance_65 : decode cX3_dance 65 = .ok (.aload_n 0, 1) := by decide +kernel
theorem dX3_dance_66 : decode cX3_dance 66 = .ok (.aload_n 0, 1) := by decide +kernel
theorem dX3_dance_67 : decode cX3_dance 67 = .ok (.getfield 33, 3) := by decide +kernel
theorem dX3_dance_70 : decode cX3_dance 70 = .ok (.iconst 3, 1) := by decide +kernel
theorem dX3_dance_71 : decode cX3_dance 71 = .ok (.iload 4, 2) := by decide +kernel
theorem dX3_dance_73 : decode cX3_dance 73 = .ok (.imul, 1) := by decide +kernel
theorem dX3_dance_74 : decode cX3_dance 74 = .ok (.iaload, 1) := by decide +kernel
theorem dX3_dance_75 : decode cX3_dance 75 = .ok (.aload_n 0, 1) := by decide +kernel
theorem dX3_dance_76 : decode cX3_dance 76 = .ok (.getfield 33, 3) := by decide +kernel
theorem dX3_dance_79 : decode cX3_dance 79 = .ok (.iconst 3, 1) := by decide +kernel
theorem dX3_dance_80 : decode cX3_dance 80 = .ok (.iload 4, 2) := by decide +kernel
theorem dX3_dance_82 : decode cX3_dance 82 = .ok (.imul, 1) := by decide +kernel
theorem dX3_dance_83 : decode cX3_dance 83 = .ok (.iconst 1, 1) := by decide +kernel
theorem dX3_dance_84 : decode cX3_dance 84 = .ok (.iadd, 1) := by decide +kernel
theorem dX3_dance_85 : decode cX3_dance 85 = .ok (.iaload, 1) := by decide +kernel
theorem dX3_dance_86 : decode cX3_dance 86 = .ok (.aload_n 0, 1) := by decide +kernel
theorem dX3_dance_87 : decode cX3_dance 87 = .ok (.getfield 33, 3) := by decide +kernel
theorem dX3_dance_90 : decode cX3_dance 90 = .ok (.iconst 3, 1) := by decide +kernel
theorem dX3_dance_91 : decode cX3_dance 91 = .ok (.iload 4, 2) := by decide +kernel
theorem dX3_dance_93 : decode cX3_dance 93 = .ok (.imul, 1) := by decide +kernel
theorem dX3_dance_94 : decode cX3_dance 94 = .ok (.iconst 2, 1) := by decide +kernel
theorem dX3_dance_95 : decode cX3_dance 95 = .ok (.iadd, 1) := by decide +kernel
theorem dX3_dance_96 : decode cX3_dance 96 = .ok (.iaload, 1) := by decide +kernel
theorem dX3_dance_97 : decode cX3_dance 97 = .ok (.invokevirtual 213, 3) := by decide +kernel
theorem dX3_dance_100 : decode cX3_dance 100 = .ok (.putfield 114, 3) := by decide +kernel
theorem dX3_dance_103 : decode cX3_dance 103 = .ok (.aload_n 0, 1) := by decide +kernel
theorem dX3_dance_104 : decode cX3_dance 104 = .ok (.getfield 114, 3) := by decide +kernel
theorem dX3_dance_107 : decode cX3_dance 107 = .ok (.ifCond .le 11, 3) := by decide +kernel
theorem dX3_dance_110 : decode cX3_dance 110 = .ok (.aload_n 0, 1) := by decide +kernel
theorem dX3_dance_111 : decode cX3_dance 111 = .ok (.iload 4, 2) := by decide +kernel
theorem dX3_dance_113 : decode cX3_dance 113 = .ok (.putfield 224, 3) := by decide +kernel
theorem dX3_dance_116 : decode cX3_dance 116 = .ok (.iload_n 2, 1) := by decide +kernel
theorem dX3_dance_117 : decode cX3_dance 117 = .ok (.ireturn, 1) := by decide +kernel
theorem dX3_dance_118 : decode cX3_dance 118 = .ok (.aload_n 0, 1) := by decide +kernel
theorem dX3_dance_119 : decode cX3_dance 119 = .ok (.aload_n 0, 1) := by decide +kernel
theorem dX3_dance_120 : decode cX3_dance 120 = .ok (.getfield 33, 3) := by decide +kernel
theorem dX3_dance_123 : decode cX3_dance 123 = .ok (.iconst 3, 1) := by decide +kernel
theorem dX3_dance_124 : decode cX3_dance 124 = .ok (.iload 4, 2) := by decide +kernel
theorem dX3_dance_126 : decode cX3_dance 126 = .ok (.imul, 1) := by decide +kernel
theorem dX3_dance_127 : decode cX3_dance 127 = .ok (.iaload, 1) := by decide +kernel
theorem dX3_dance_128 : decode cX3_dance 128 = .ok (.aload_n 0, 1) := by decide +kernel
theorem dX3_dance_129 : decode cX3_dance 129 = .ok (.getfield 33, 3) := by decide +kernel
theorem dX3_dance_132 : decode cX3_dance 132 = .ok (.iconst 3, 1) := by decide +kernel
theorem dX3_dance_133 : decode cX3_dance 133 = .ok (.iload 4, 2) := by decide +kernel
theorem dX3_dance_135 : decode cX3_dance 135 = .ok (.imul, 1) := by decide +kernel
theorem dX3_dance_136 : decode cX3_dance 136 = .ok (.iconst 1, 1) := by decide +kernel
theorem dX3_dance_137 : decode cX3_dance 137 = .ok (.iadd, 1) := by decide +kernel
theorem dX3_dance_138 : decode cX3_dance 138 = .ok (.iaload, 1) := by decide +kernel
theorem dX3_dance_139 : decode cX3_dance 139 = .ok (.aload_n 0, 1) := by decide +kernel
theorem dX3_dance_140 : decode cX3_dance 140 = .ok (.getfield 33, 3) := by decide +kernel
theorem dX3_dance_143 : decode cX3_dance 143 = .ok (.iconst 3, 1) := by decide +kernel
theorem dX3_dance_144 : decode cX3_dance 144 = .ok (.iload 4, 2) := by decide +kernel
theorem dX3_dance_146 : decode cX3_dance 146 = .ok (.imul, 1) := by decide +kernel
theorem dX3_dance_147 : decode cX3_dance 147 = .ok (.iconst 2, 1) := by decide +kernel
theorem dX3_dance_148 : decode cX3_dance 148 = .ok (.iadd, 1) := by decide +kernel
theorem dX3_dance_149 : decode cX3_dance 149 = .ok (.iaload, 1) := by decide +kernel
theorem dX3_dance_150 : decode cX3_dance 150 = .ok (.aload_n 0, 1) := by decide +kernel
theorem dX3_dance_151 : decode cX3_dance 151 = .ok (.getfield 36, 3) := by decide +kernel
theorem dX3_dance_154 : decode cX3_dance 154 = .ok (.invokevirtual 217, 3) := by decide +kernel
theorem dX3_dance_157 : decode cX3_dance 157 = .ok (.istore 5, 2) := by decide +kernel
theorem dX3_dance_159 : decode cX3_dance 159 = .ok (.iinc 2 1, 3) := by decide +kernel
theorem dX3_dance_162 : decode cX3_dance 162 = .ok (.iinc 3 1, 3) := by decide +kernel
theorem dX3_dance_165 : decode cX3_dance 165 = .ok (.goto (-119), 3) := by decide +kernel
theorem dX3_dance_168 : decode cX3_dance 168 = .ok (.iload_n 2, 1) := by decide +kernel
theorem dX3_dance_169 : decode cX3_dance 169 = .ok (.ireturn, 1) := by decide +kernel
theorem dX3_danced_0 : decode cX3_danced 0 = .ok (.iload_n 1, 1) := by decide +kernel
theorem dX3_danced_1 : decode cX3_danced 1 = .ok (.ifCond .lt 8, 3) := by decide +kernel
theorem dX3_danced_4 : decode cX3_danced 4 = .ok (.iload_n 1, 1) := by decide +kernel
theorem dX3_danced_5 : decode cX3_danced 5 = .ok (.iconst 4, 1) := by decide +kernel
theorem dX3_danced_6 : decode cX3_danced 6 = .ok (.if_icmp .le 7, 3) := by decide +kernel
theorem dX3_danced_9 : decode cX3_danced 9 = .ok (.iconst (-1), 1) := by decide +kernel
theorem dX3_danced_10 : decode cX3_danced 10 = .ok (.goto 22, 3) := by decide +kernel
theorem dX3_danced_13 : decode cX3_danced 13 = .ok (.iload_n 1, 1) := by decide +kernel
theorem dX3_danced_14 : decode cX3_danced 14 = .ok (.ifCond .ne 10, 3) := by decide +kernel
theorem dX3_danced_17 : decode cX3_danced 17 = .ok (.aload_n 0, 1) := by decide +kernel
theorem dX3_danced_18 : decode cX3_danced 18 = .ok (.getfield 224, 3) := by decide +kernel
theorem dX3_danced_21 : decode cX3_danced 21 = .ok (.goto 11, 3) := by decide +kernel
theorem dX3_danced_24 : decode cX3_danced 24 = .ok (.aload_n 0, 1) := by decide +kernel
theorem dX3_danced_25 : decode cX3_danced 25 = .ok (.getfield 36, 3) := by decide +kernel
theorem dX3_danced_28 : decode cX3_danced 28 = .ok (.iload_n 1, 1) := by decide +kernel
theorem dX3_danced_29 : decode cX3_danced 29 = .ok (.iconst 1, 1) := by decide +kernel
theorem dX3_danced_30 : decode cX3_danced 30 = .ok (.isub, 1) := by decide +kernel
theorem dX3_danced_31 : decode cX3_danced 31 = .ok (.iaload, 1) := by decide +kernel
theorem dX3_danced_32 : decode cX3_danced 32 = .ok (.ireturn, 1) := by decide +kernel
theorem dX3_bar_0 : decode cX3_bar 0 = .ok (.iload_n 1, 1) := by decide +kernel
theorem dX3_bar_1 : decode cX3_bar 1 = .ok (.ifCond .ne 10, 3) := by decide +kernel
theorem dX3_bar_4 : decode cX3_bar 4 = .ok (.aload_n 0, 1) := by decide +kernel
theorem dX3_bar_5 : decode cX3_bar 5 = .ok (.getfield 153, 3) := by decide +kernel
theorem dX3_bar_8 : decode cX3_bar 8 = .ok (.goto 42, 3) := by decide +kernel
theorem dX3_bar_11 : decode cX3_bar 11 = .ok (.iload_n 1, 1) := by decide +kernel
theorem dX3_bar_12 : decode cX3_bar 12 = .ok (.iconst 1, 1) := by decide +kernel
theorem dX3_bar_13 : decode cX3_bar 13 = .ok (.if_icmp .ne 11, 3) := by decide +kernel
theorem dX3_bar_16 : decode cX3_bar 16 = .ok (.aload_n 0, 1) := by decide +kernel
theorem dX3_bar_17 : decode cX3_bar 17 = .ok (.getfield 157, 3) := by decide +kernel
theorem dX3_bar_20 : decode cX3_bar 20 = .ok (.i2l, 1) := by decide +kernel
theorem dX3_bar_21 : decode cX3_bar 21 = .ok (.goto 29, 3) := by decide +kernel
theorem dX3_bar_24 : decode cX3_bar 24 = .ok (.iload_n 1, 1) := by decide +kernel
theorem dX3_bar_25 : decode cX3_bar 25 = .ok (.iconst 2, 1) := by decide +kernel
theorem dX3_bar_26 : decode cX3_bar 26 = .ok (.if_icmp .ne 11, 3) := by decide +kernel
theorem dX3_bar_29 : decode cX3_bar 29 = .ok (.aload_n 0, 1) := by decide +kernel
theorem dX3_bar_30 : decode cX3_bar 30 = .ok (.getfield 161, 3) := by decide +kernel
theorem dX3_bar_33 : decode cX3_bar 33 = .ok (.i2l, 1) := by decide +kernel
theorem dX3_bar_34 : decode cX3_bar 34 = .ok (.goto 16, 3) := by decide +kernel
theorem dX3_bar_37 : decode cX3_bar 37 = .ok (.iload_n 1, 1) := by decide +kernel
theorem dX3_bar_38 : decode cX3_bar 38 = .ok (.iconst 3, 1) := by decide +kernel
theorem dX3_bar_39 : decode cX3_bar 39 = .ok (.if_icmp .ne 10, 3) := by decide +kernel
theorem dX3_bar_42 : decode cX3_bar 42 = .ok (.aload_n 0, 1) := by decide +kernel
theorem dX3_bar_43 : decode cX3_bar 43 = .ok (.getfield 164, 3) := by decide +kernel
theorem dX3_bar_46 : decode cX3_bar 46 = .ok (.goto 4, 3) := by decide +kernel
theorem dX3_bar_49 : decode cX3_bar 49 = .ok (.lconst 0, 1) := by decide +kernel
theorem dX3_bar_50 : decode cX3_bar 50 = .ok (.lreturn, 1) := by decide +kernel
set_option maxRecDepth 20000 in
theorem ggX3_isAhead_X3_place : GoodIn wsX3_isAhead wsX3_place := goodIn_r _ [9, 10] (by decide +kernel) (by decide +kernel)
set_option maxRecDepth 20000 in
theorem gX3_isAhead_X3_place : GoodIn wsX3_isAhead (va_wsS RX3 97 yX3_place wsX3_place) := goodIn_app (goodIn_of _ (by decide +kernel)) ggX3_isAhead_X3_place
set_option maxRecDepth 20000 in
theorem ggX3_isAhead_X3_place4 : GoodIn wsX3_isAhead wsX3_place4 := goodIn_r _ [13, 14] (by decide +kernel) (by decide +kernel)
set_option maxRecDepth 20000 in
theorem gX3_isAhead_X3_place4 : GoodIn wsX3_isAhead (va_wsS RX3 101 yX3_place4 wsX3_place4) := goodIn_app (goodIn_of _ (by decide +kernel)) ggX3_isAhead_X3_place4
theorem dX3_isAhead_0 : decode cX3_isAhead 0 = .ok (.aload_n 0, 1) := by decide +kernel
theorem dX3_isAhead_1 : decode cX3_isAhead 1 = .ok (.getfield 7, 3) := by decide +kernel
theorem dX3_isAhead_4 : decode cX3_isAhead 4 = .ok (.iload_n 1, 1) := by decide +kernel
theorem dX3_isAhead_5 : decode cX3_isAhead 5 = .ok (.baload, 1) := by decide +kernel
theorem dX3_isAhead_6 : decode cX3_isAhead 6 = .ok (.aload_n 0, 1) := by decide +kernel
theorem dX3_isAhead_7 : decode cX3_isAhead 7 = .ok (.getfield 7, 3) := by decide +kernel
theorem dX3_isAhead_10 : decode cX3_isAhead 10 = .ok (.iload_n 2, 1) := by decide +kernel
theorem dX3_isAhead_11 : decode cX3_isAhead 11 = .ok (.baload, 1) := by decide +kernel
theorem dX3_isAhead_12 : decode cX3_isAhead 12 = .ok (.if_icmp .eq 10, 3) := by decide +kernel
theorem dX3_isAhead_15 : decode cX3_isAhead 15 = .ok (.aload_n 0, 1) := by decide +kernel
theorem dX3_isAhead_16 : decode cX3_isAhead 16 = .ok (.getfield 7, 3) := by decide +kernel
theorem dX3_isAhead_19 : decode cX3_isAhead 19 = .ok (.iload_n 2, 1) := by decide +kernel
theorem dX3_isAhead_20 : decode cX3_isAhead 20 = .ok (.baload, 1) := by decide +kernel
theorem dX3_isAhead_21 : decode cX3_isAhead 21 = .ok (.ireturn, 1) := by decide +kernel
theorem dX3_isAhead_22 : decode cX3_isAhead 22 = .ok (.aload_n 0, 1) := by decide +kernel
theorem dX3_isAhead_23 : decode cX3_isAhead 23 = .ok (.getfield 7, 3) := by decide +kernel
theorem dX3_isAhead_26 : decode cX3_isAhead 26 = .ok (.iload_n 1, 1) := by decide +kernel
theorem dX3_isAhead_27 : decode cX3_isAhead 27 = .ok (.baload, 1) := by decide +kernel
theorem dX3_isAhead_28 : decode cX3_isAhead 28 = .ok (.ifCond .eq 14, 3) := by decide +kernel
theorem dX3_isAhead_31 : decode cX3_isAhead 31 = .ok (.iload_n 1, 1) := by decide +kernel
theorem dX3_isAhead_32 : decode cX3_isAhead 32 = .ok (.iload_n 2, 1) := by decide +kernel
theorem dX3_isAhead_33 : decode cX3_isAhead 33 = .ok (.if_icmp .ge 7, 3) := by decide +kernel
theorem dX3_isAhead_36 : decode cX3_isAhead 36 = .ok (.iconst 1, 1) := by decide +kernel
theorem dX3_isAhead_37 : decode cX3_isAhead 37 = .ok (.goto 4, 3) := by decide +kernel
theorem dX3_isAhead_40 : decode cX3_isAhead 40 = .ok (.iconst 0, 1) := by decide +kernel
theorem dX3_isAhead_41 : decode cX3_isAhead 41 = .ok (.ireturn, 1) := by decide +kernel
theorem dX3_isAhead_42 : decode cX3_isAhead 42 = .ok (.aload_n 0, 1) := by decide +kernel
theorem dX3_isAhead_43 : decode cX3_isAhead 43 = .ok (.getfield 13, 3) := by decide +kernel
theorem dX3_isAhead_46 : decode cX3_isAhead 46 = .ok (.iload_n 1, 1) := by decide +kernel
theorem dX3_isAhead_47 : decode cX3_isAhead 47 = .ok (.laload, 1) := by decide +kernel
theorem dX3_isAhead_48 : decode cX3_isAhead 48 = .ok (.aload_n 0, 1) := by decide +kernel
theorem dX3_isAhead_49 : decode cX3_isAhead 49 = .ok (.getfield 13, 3) := by decide +kernel
theorem dX3_isAhead_52 : decode cX3_isAhead 52 = .ok (.iload_n 2, 1) := by decide +kernel
theorem dX3_isAhead_53 : decode cX3_isAhead 53 = .ok (.laload, 1) := by decide +kernel
theorem dX3_isAhead_54 : decode cX3_isAhead 54 = .ok (.lcmp, 1) := by decide +kernel
theorem dX3_isAhead_55 : decode cX3_isAhead 55 = .ok (.ifCond .eq 31, 3) := by decide +kernel
theorem dX3_isAhead_58 : decode cX3_isAhead 58 = .ok (.aload_n 0, 1) := by decide +kernel
theorem dX3_isAhead_59 : decode cX3_isAhead 59 = .ok (.getfield 13, 3) := by decide +kernel
theorem dX3_isAhead_62 : decode cX3_isAhead 62 = .ok (.iload_n 1, 1) := by decide +kernel
theorem dX3_isAhead_63 : decode cX3_isAhead 63 = .ok (.laload, 1) := by decide +kernel
theorem dX3_isAhead_64 : decode cX3_isAhead 64 = .ok (.invokestatic 97, 3) := by decide +kernel
theorem dX3_isAhead_67 : decode cX3_isAhead 67 = .ok (.aload_n 0, 1) := by decide +kernel
theorem dX3_isAhead_68 : decode cX3_isAhead 68 = .ok (.getfield 13, 3) := by decide +kernel
theorem dX3_isAhead_71 : decode cX3_isAhead 71 = .ok (.iload_n 2, 1) := by decide +kernel
theorem dX3_isAhead_72 : decode cX3_isAhead 72 = .ok (.laload, 1) := by decide +kernel
theorem dX3_isAhead_73 : decode cX3_isAhead 73 = .ok (.invokestatic 97, 3) := by decide +kernel
theorem dX3_isAhead_76 : decode cX3_isAhead 76 = .ok (.lcmp, 1) := by decide +kernel
theorem dX3_isAhead_77 : decode cX3_isAhead 77 = .ok (.ifCond .ge 7, 3) := by decide +kernel
theorem dX3_isAhead_80 : decode cX3_isAhead 80 = .ok (.iconst 1, 1) := by decide +kernel
theorem dX3_isAhead_81 : decode cX3_isAhead 81 = .ok (.goto 4, 3) := by decide +kernel
theorem dX3_isAhead_84 : decode cX3_isAhead 84 = .ok (.iconst 0, 1) := by decide +kernel
theorem dX3_isAhead_85 : decode cX3_isAhead 85 = .ok (.ireturn, 1) := by decide +kernel
theorem dX3_isAhead_86 : decode cX3_isAhead 86 = .ok (.aload_n 0, 1) := by decide +kernel
theorem dX3_isAhead_87 : decode cX3_isAhead 87 = .ok (.getfield 17, 3) := by decide +kernel
theorem dX3_isAhead_90 : decode cX3_isAhead 90 = .ok (.iload_n 1, 1) := by decide +kernel
theorem dX3_isAhead_91 : decode cX3_isAhead 91 = .ok (.iaload, 1) := by decide +kernel
theorem dX3_isAhead_92 : decode cX3_isAhead 92 = .ok (.aload_n 0, 1) := by decide +kernel
theorem dX3_isAhead_93 : decode cX3_isAhead 93 = .ok (.getfield 17, 3) := by decide +kernel
theorem dX3_isAhead_96 : decode cX3_isAhead 96 = .ok (.iload_n 2, 1) := by decide +kernel
theorem dX3_isAhead_97 : decode cX3_isAhead 97 = .ok (.iaload, 1) := by decide +kernel
theorem dX3_isAhead_98 : decode cX3_isAhead 98 = .ok (.if_icmp .eq 30, 3) := by decide +kernel
theorem dX3_isAhead_101 : decode cX3_isAhead 101 = .ok (.aload_n 0, 1) := by decide +kernel
theorem dX3_isAhead_102 : decode cX3_isAhead 102 = .ok (.getfield 17, 3) := by decide +kernel
theorem dX3_isAhead_105 : decode cX3_isAhead 105 = .ok (.iload_n 1, 1) := by decide +kernel
theorem dX3_isAhead_106 : decode cX3_isAhead 106 = .ok (.iaload, 1) := by decide +kernel
theorem dX3_isAhead_107 : decode cX3_isAhead 107 = .ok (.invokestatic 101, 3) := by decide +kernel
theorem dX3_isAhead_110 : decode cX3_isAhead 110 = .ok (.aload_n 0, 1) := by decide +kernel
theorem dX3_isAhead_111 : decode cX3_isAhead 111 = .ok (.getfield 17, 3) := by decide +kernel
theorem dX3_isAhead_114 : decode cX3_isAhead 114 = .ok (.iload_n 2, 1) := by decide +kernel
theorem dX3_isAhead_115 : decode cX3_isAhead 115 = .ok (.iaload, 1) := by decide +kernel
theorem dX3_isAhead_116 : decode cX3_isAhead 116 = .ok (.invokestatic 101, 3) := by decide +kernel
theorem dX3_isAhead_119 : decode cX3_isAhead 119 = .ok (.if_icmp .ge 7, 3) := by decide +kernel
theorem dX3_isAhead_122 : decode cX3_isAhead 122 = .ok (.iconst 1, 1) := by decide +kernel
theorem dX3_isAhead_123 : decode cX3_isAhead 123 = .ok (.goto 4, 3) := by decide +kernel
theorem dX3_isAhead_126 : decode cX3_isAhead 126 = .ok (.iconst 0, 1) := by decide +kernel
theorem dX3_isAhead_127 : decode cX3_isAhead 127 = .ok (.ireturn, 1) := by decide +kernel
theorem dX3_isAhead_128 : decode cX3_isAhead 128 = .ok (.aload_n 0, 1) := by decide +kernel
theorem dX3_isAhead_129 : decode cX3_isAhead 129 = .ok (.getfield 21, 3) := by decide +kernel
theorem dX3_isAhead_132 : decode cX3_isAhead 132 = .ok (.iload_n 1, 1) := by decide +kernel
theorem dX3_isAhead_133 : decode cX3_isAhead 133 = .ok (.iaload, 1) := by decide +kernel
theorem dX3_isAhead_134 : decode cX3_isAhead 134 = .ok (.aload_n 0, 1) := by decide +kernel
theorem dX3_isAhead_135 : decode cX3_isAhead 135 = .ok (.getfield 21, 3) := by decide +kernel
theorem dX3_isAhead_138 : decode cX3_isAhead 138 = .ok (.iload_n 2, 1) := by decide +kernel
theorem dX3_isAhead_139 : decode cX3_isAhead 139 = .ok (.iaload, 1) := by decide +kernel
theorem dX3_isAhead_140 : decode cX3_isAhead 140 = .ok (.if_icmp .eq 24, 3) := by decide +kernel
theorem dX3_isAhead_143 : decode cX3_isAhead 143 = .ok (.aload_n 0, 1) := by decide +kernel
theorem dX3_isAhead_144 : decode cX3_isAhead 144 = .ok (.getfield 21, 3) := by decide +kernel
theorem dX3_isAhead_147 : decode cX3_isAhead 147 = .ok (.iload_n 1, 1) := by decide +kernel
theorem dX3_isAhead_148 : decode cX3_isAhead 148 = .ok (.iaload, 1) := by decide +kernel
theorem dX3_isAhead_149 : decode cX3_isAhead 149 = .ok (.aload_n 0, 1) := by decide +kernel
theorem dX3_isAhead_150 : decode cX3_isAhead 150 = .ok (.getfield 21, 3) := by decide +kernel
theorem dX3_isAhead_153 : decode cX3_isAhead 153 = .ok (.iload_n 2, 1) := by decide +kernel
theorem dX3_isAhead_154 : decode cX3_isAhead 154 = .ok (.iaload, 1) := by decide +kernel
theorem dX3_isAhead_155 : decode cX3_isAhead 155 = .ok (.if_icmp .ge 7, 3) := by decide +kernel
theorem dX3_isAhead_158 : decode cX3_isAhead 158 = .ok (.iconst 1, 1) := by decide +kernel
theorem dX3_isAhead_159 : decode cX3_isAhead 159 = .ok (.goto 4, 3) := by decide +kernel
theorem dX3_isAhead_162 : decode cX3_isAhead 162 = .ok (.iconst 0, 1) := by decide +kernel
theorem dX3_isAhead_163 : decode cX3_isAhead 163 = .ok (.ireturn, 1) := by decide +kernel
theorem dX3_isAhead_164 : decode cX3_isAhead 164 = .ok (.aload_n 0, 1) := by decide +kernel
theorem dX3_isAhead_165 : decode cX3_isAhead 165 = .ok (.getfield 24, 3) := by decide +kernel
theorem dX3_isAhead_168 : decode cX3_isAhead 168 = .ok (.iload_n 1, 1) := by decide +kernel
theorem dX3_isAhead_169 : decode cX3_isAhead 169 = .ok (.laload, 1) := by decide +kernel
theorem dX3_isAhead_170 : decode cX3_isAhead 170 = .ok (.aload_n 0, 1) := by decide +kernel
theorem dX3_isAhead_171 : decode cX3_isAhead 171 = .ok (.getfield 24, 3) := by decide +kernel
theorem dX3_isAhead_174 : decode cX3_isAhead 174 = .ok (.iload_n 2, 1) := by decide +kernel
theorem dX3_isAhead_175 : decode cX3_isAhead 175 = .ok (.laload, 1) := by decide +kernel
theorem dX3_isAhead_176 : decode cX3_isAhead 176 = .ok (.lcmp, 1) := by decide +kernel
theorem dX3_isAhead_177 : decode cX3_isAhead 177 = .ok (.ifCond .eq 27, 3) := by decide +kernel
theorem dX3_isAhead_180 : decode cX3_isAhead 180 = .ok (.aload_n 0, 1) := by decide +kernel
theorem dX3_isAhead_181 : decode cX3_isAhead 181 = .ok (.getfield 24, 3) := by decide +kernel
theorem dX3_isAhead_184 : decode cX3_isAhead 184 = .ok (.iload_n 1, 1) := by decide +kernel
theorem dX3_isAhead_185 : decode cX3_isAhead 185 = .ok (.laload, 1) := by decide +kernel
theorem dX3_isAhead_186 : decode cX3_isAhead 186 = .ok (.aload_n 0, 1) := by decide +kernel
theorem dX3_isAhead_187 : decode cX3_isAhead 187 = .ok (.getfield 24, 3) := by decide +kernel
theorem dX3_isAhead_190 : decode cX3_isAhead 190 = .ok (.iload_n 2, 1) := by decide +kernel
theorem dX3_isAhead_191 : decode cX3_isAhead 191 = .ok (.laload, 1) := by decide +kernel
theorem dX3_isAhead_192 : decode cX3_isAhead 192 = .ok (.lcmp, 1) := by decide +kernel
theorem dX3_isAhead_193 : decode cX3_isAhead 193 = .ok (.ifCond .ge 7, 3) := by decide +kernel
theorem dX3_isAhead_196 : decode cX3_isAhead 196 = .ok (.iconst 1, 1) := by decide +kernel
theorem dX3_isAhead_197 : decode cX3_isAhead 197 = .ok (.goto 17, 3) := by decide +kernel
theorem dX3_isAhead_200 : decode cX3_isAhead 200 = .ok (.iconst 0, 1) := by decide +kernel
theorem dX3_isAhead_201 : decode cX3_isAhead 201 = .ok (.goto 13, 3) := by decide +kernel
theorem dX3_isAhead_204 : decode cX3_isAhead 204 = .ok (.iload_n 1, 1) := by decide +kernel
theorem dX3_isAhead_205 : decode cX3_isAhead 205 = .ok (.iload_n 2, 1) := by decide +kernel
theorem dX3_isAhead_206 : decode cX3_isAhead 206 = .ok (.if_icmp .ge 7, 3) := by decide +kernel
theorem dX3_isAhead_209 : decode cX3_isAhead 209 = .ok (.iconst 1, 1) := by decide +kernel
theorem dX3_isAhead_210 : decode cX3_isAhead 210 = .ok (.goto 4, 3) := by decide +kernel
theorem dX3_isAhead_213 : decode cX3_isAhead 213 = .ok (.iconst 0, 1) := by decide +kernel
theorem dX3_isAhead_214 : decode cX3_isAhead 214 = .ok (.ireturn, 1) := by decide +kernel
set_option maxRecDepth 20000 in
theorem ggX3_order_X3_isAhead : GoodIn wsX3_order wsX3_isAhead := goodIn_r _ [5, 6, 7, 8, 9, 10, 11, 12, 4, 13, 14, 15, 16, 17, 18, 19, 20, 21, 22, 23, 24, 25, 26, 27, 28, 29, 30, 31, 32, 33, 34, 35, 36, 37, 38, 39] (by decide +kernel) (by decide +kernel)
set_option maxRecDepth 20000 in
theorem gX3_order_X3_isAhead : GoodIn wsX3_order (wsV RX3 227 RX3 yX3_isAhead wsX3_isAhead) := goodIn_app (goodIn_of _ (by decide +kernel)) ggX3_order_X3_isAhead
theorem dX3_order_0 : decode cX3_order 0 = .ok (.iconst 0, 1) := by decide +kernel
theorem dX3_order_1 : decode cX3_order 1 = .ok (.istore_n 2, 1) := by decide +kernel
theorem dX3_order_2 : decode cX3_order 2 = .ok (.iload_n 2, 1) := by decide +kernel
theorem dX3_order_3 : decode cX3_order 3 = .ok (.bipush 8, 2) := by decide +kernel
theorem dX3_order_5 : decode cX3_order 5 = .ok (.if_icmp .ge 58, 3) := by decide +kernel
theorem dX3_order_8 : decode cX3_order 8 = .ok (.iconst 0, 1) := by decide +kernel
theorem dX3_order_9 : decode cX3_order 9 = .ok (.istore_n 3, 1) := by decide +kernel
theorem dX3_order_10 : decode cX3_order 10 = .ok (.iconst 0, 1) := by decide +kernel
theorem dX3_order_11 : decode cX3_order 11 = .ok (.istore 4, 2) := by decide +kernel
theorem dX3_order_13 : decode cX3_order 13 = .ok (.iload 4, 2) := by decide +kernel
theorem dX3_order_15 : decode cX3_order 15 = .ok (.bipush 8, 2) := by decide +kernel
theorem dX3_order_17 : decode cX3_order 17 = .ok (.if_icmp .ge 33, 3) := by decide +kernel
theorem dX3_order_20 : decode cX3_order 20 = .ok (.iload_n 3, 1) := by decide +kernel
theorem dX3_order_21 : decode cX3_order 21 = .ok (.iload 4, 2) := by decide +kernel
theorem dX3_order_23 : decode cX3_order 23 = .ok (.iload_n 2, 1) := by decide +kernel
theorem dX3_order_24 : decode cX3_order 24 = .ok (.if_icmp .eq 17, 3) := by decide +kernel
theorem dX3_order_27 : decode cX3_order 27 = .ok (.aload_n 0, 1) := by decide +kernel
theorem dX3_order_28 : decode cX3_order 28 = .ok (.iload 4, 2) := by decide +kernel
theorem dX3_order_30 : decode cX3_order 30 = .ok (.iload_n 2, 1) := by decide +kernel
theorem dX3_order_31 : decode cX3_order 31 = .ok (.invokevirtual 227, 3) := by decide +kernel
theorem dX3_order_34 : decode cX3_order 34 = .ok (.ifCond .eq 7, 3) := by decide +kernel
theorem dX3_order_37 : decode cX3_order 37 = .ok (.iconst 1, 1) := by decide +kernel
theorem dX3_order_38 : decode cX3_order 38 = .ok (.goto 4, 3) := by decide +kernel
theorem dX3_order_41 : decode cX3_order 41 = .ok (.iconst 0, 1) := by decide +kernel
theorem dX3_order_42 : decode cX3_order 42 = .ok (.iadd, 1) := by decide +kernel
theorem dX3_order_43 : decode cX3_order 43 = .ok (.istore_n 3, 1) := by decide +kernel
theorem dX3_order_44 : decode cX3_order 44 = .ok (.iinc 4 1, 3) := by decide +kernel
theorem dX3_order_47 : decode cX3_order 47 = .ok (.goto (-34), 3) := by decide +kernel
theorem dX3_order_50 : decode cX3_order 50 = .ok (.iload_n 3, 1) := by decide +kernel
theorem dX3_order_51 : decode cX3_order 51 = .ok (.iload_n 1, 1) := by decide +kernel
theorem dX3_order_52 : decode cX3_order 52 = .ok (.if_icmp .ne 5, 3) := by decide +kernel
theorem dX3_order_55 : decode cX3_order 55 = .ok (.iload_n 2, 1) := by decide +kernel
theorem dX3_order_56 : decode cX3_order 56 = .ok (.ireturn, 1) := by decide +kernel
theorem dX3_order_57 : decode cX3_order 57 = .ok (.iinc 2 1, 3) := by decide +kernel
theorem dX3_order_60 : decode cX3_order 60 = .ok (.goto (-58), 3) := by decide +kernel
theorem dX3_order_63 : decode cX3_order 63 = .ok (.iconst (-1), 1) := by decide +kernel
theorem dX3_order_64 : decode cX3_order 64 = .ok (.ireturn, 1) := by decide +kernel
theorem dJ6_compare_7cf53_0 : decode cJ6_compare_7cf53 0 = .ok (.iload_n 0, 1) := by decide +kernel
theorem dJ6_compare_7cf53_1 : decode cJ6_compare_7cf53 1 = .ok (.iload_n 1, 1) := by decide +kernel
theorem dJ6_compare_7cf53_2 : decode cJ6_compare_7cf53 2 = .ok (.if_icmp .ge 7, 3) := by decide +kernel
theorem dJ6_compare_7cf53_5 : decode cJ6_compare_7cf53 5 = .ok (.iconst (-1), 1) := by decide +kernel
theorem dJ6_compare_7cf53_6 : decode cJ6_compare_7cf53 6 = .ok (.goto 13, 3) := by decide +kernel
theorem dJ6_compare_7cf53_9 : decode cJ6_compare_7cf53 9 = .ok (.iload_n 0, 1) := by decide +kernel
theorem dJ6_compare_7cf53_10 : decode cJ6_compare_7cf53 10 = .ok (.iload_n 1, 1) := by decide +kernel
theorem dJ6_compare_7cf53_11 : decode cJ6_compare_7cf53 11 = .ok (.if_icmp .ne 7, 3) := by decide +kernel
theorem dJ6_compare_7cf53_14 : decode cJ6_compare_7cf53 14 = .ok (.iconst 0, 1) := by decide +kernel
theorem dJ6_compare_7cf53_15 : decode cJ6_compare_7cf53 15 = .ok (.goto 4, 3) := by decide +kernel
theorem dJ6_compare_7cf53_18 : decode cJ6_compare_7cf53 18 = .ok (.iconst 1, 1) := by decide +kernel
theorem dJ6_compare_7cf53_19 : decode cJ6_compare_7cf53 19 = .ok (.ireturn, 1) := by decide +kernel
theorem dJ13_compare_74951_0 : decode cJ13_compare_74951 0 = .ok (.lload_n 0, 1) := by decide +kernel
theorem dJ13_compare_74951_1 : decode cJ13_compare_74951 1 = .ok (.lload_n 2, 1) := by decide +kernel
theorem dJ13_compare_74951_2 : decode cJ13_compare_74951 2 = .ok (.lcmp, 1) := by decide +kernel
theorem dJ13_compare_74951_3 : decode cJ13_compare_74951 3 = .ok (.ifCond .ge 7, 3) := by decide +kernel
theorem dJ13_compare_74951_6 : decode cJ13_compare_74951 6 = .ok (.iconst (-1), 1) := by decide +kernel
theorem dJ13_compare_74951_7 : decode cJ13_compare_74951 7 = .ok (.goto 14, 3) := by decide +kernel
theorem dJ13_compare_74951_10 : decode cJ13_compare_74951 10 = .ok (.lload_n 0, 1) := by decide +kernel
theorem dJ13_compare_74951_11 : decode cJ13_compare_74951 11 = .ok (.lload_n 2, 1) := by decide +kernel
theorem dJ13_compare_74951_12 : decode cJ13_compare_74951 12 = .ok (.lcmp, 1) := by decide +kernel
theorem dJ13_compare_74951_13 : decode cJ13_compare_74951 13 = .ok (.ifCond .ne 7, 3) := by decide +kernel
theorem dJ13_compare_74951_16 : decode cJ13_compare_74951 16 = .ok (.iconst 0, 1) := by decide +kernel
theorem dJ13_compare_74951_17 : decode cJ13_compare_74951 17 = .ok (.goto 4, 3) := by decide +kernel
theorem dJ13_compare_74951_20 : decode cJ13_compare_74951 20 = .ok (.iconst 1, 1) := by decide +kernel
theorem dJ13_compare_74951_21 : decode cJ13_compare_74951 21 = .ok (.ireturn, 1) := by decide +kernel
theorem dJ9_abs_0f7a4_0 : decode cJ9_abs_0f7a4 0 = .ok (.iload_n 0, 1) := by decide +kernel
theorem dJ9_abs_0f7a4_1 : decode cJ9_abs_0f7a4 1 = .ok (.ifCond .ge 8, 3) := by decide +kernel
theorem dJ9_abs_0f7a4_4 : decode cJ9_abs_0f7a4 4 = .ok (.iload_n 0, 1) := by decide +kernel
theorem dJ9_abs_0f7a4_5 : decode cJ9_abs_0f7a4 5 = .ok (.ineg, 1) := by decide +kernel
theorem dJ9_abs_0f7a4_6 : decode cJ9_abs_0f7a4 6 = .ok (.goto 4, 3) := by decide +kernel
theorem dJ9_abs_0f7a4_9 : decode cJ9_abs_0f7a4 9 = .ok (.iload_n 0, 1) := by decide +kernel
theorem dJ9_abs_0f7a4_10 : decode cJ9_abs_0f7a4 10 = .ok (.ireturn, 1) := by decide +kernel
theorem dJ9_abs_067f4_0 : decode cJ9_abs_067f4 0 = .ok (.lload_n 0, 1) := by decide +kernel
theorem dJ9_abs_067f4_1 : decode cJ9_abs_067f4 1 = .ok (.lconst 0, 1) := by decide +kernel
theorem dJ9_abs_067f4_2 : decode cJ9_abs_067f4 2 = .ok (.lcmp, 1) := by decide +kernel
theorem dJ9_abs_067f4_3 : decode cJ9_abs_067f4 3 = .ok (.ifCond .ge 8, 3) := by decide +kernel
theorem dJ9_abs_067f4_6 : decode cJ9_abs_067f4 6 = .ok (.lload_n 0, 1) := by decide +kernel
theorem dJ9_abs_067f4_7 : decode cJ9_abs_067f4 7 = .ok (.lneg, 1) := by decide +kernel
theorem dJ9_abs_067f4_8 : decode cJ9_abs_067f4 8 = .ok (.goto 4, 3) := by decide +kernel
theorem dJ9_abs_067f4_11 : decode cJ9_abs_067f4 11 = .ok (.lload_n 0, 1) := by decide +kernel
theorem dJ9_abs_067f4_12 : decode cJ9_abs_067f4 12 = .ok (.lreturn, 1) := by decide +kernel
theorem dJ9_max_7cf53_0 : decode cJ9_max_7cf53 0 = .ok (.iload_n 0, 1) := by decide +kernel
theorem dJ9_max_7cf53_1 : decode cJ9_max_7cf53 1 = .ok (.iload_n 1, 1) := by decide +kernel
theorem dJ9_max_7cf53_2 : decode cJ9_max_7cf53 2 = .ok (.if_icmp .lt 7, 3) := by decide +kernel
theorem dJ9_max_7cf53_5 : decode cJ9_max_7cf53 5 = .ok (.iload_n 0, 1) := by decide +kernel
theorem dJ9_max_7cf53_6 : decode cJ9_max_7cf53 6 = .ok (.goto 4, 3) := by decide +kernel
theorem dJ9_max_7cf53_9 : decode cJ9_max_7cf53 9 = .ok (.iload_n 1, 1) := by decide +kernel
theorem dJ9_max_7cf53_10 : decode cJ9_max_7cf53 10 = .ok (.ireturn, 1) := by decide +kernel
theorem dJ9_max_f86c9_0 : decode cJ9_max_f86c9 0 = .ok (.lload_n 0, 1) := by decide +kernel
theorem dJ9_max_f86c9_1 : decode cJ9_max_f86c9 1 = .ok (.lload_n 2, 1) := by decide +kernel
theorem dJ9_max_f86c9_2 : decode cJ9_max_f86c9 2 = .ok (.lcmp, 1) := by decide +kernel
theorem dJ9_max_f86c9_3 : decode cJ9_max_f86c9 3 = .ok (.ifCond .lt 7, 3) := by decide +kernel
theorem dJ9_max_f86c9_6 : decode cJ9_max_f86c9 6 = .ok (.lload_n 0, 1) := by decide +kernel
theorem dJ9_max_f86c9_7 : decode cJ9_max_f86c9 7 = .ok (.goto 4, 3) := by decide +kernel
theorem dJ9_max_f86c9_10 : decode cJ9_max_f86c9 10 = .ok (.lload_n 2, 1) := by decide +kernel
theorem dJ9_max_f86c9_11 : decode cJ9_max_f86c9 11 = .ok (.lreturn, 1) := by decide +kernel
theorem dJ9_min_7cf53_0 : decode cJ9_min_7cf53 0 = .ok (.iload_n 0, 1) := by decide +kernel
theorem dJ9_min_7cf53_1 : decode cJ9_min_7cf53 1 = .ok (.iload_n 1, 1) := by decide +kernel
theorem dJ9_min_7cf53_2 : decode cJ9_min_7cf53 2 = .ok (.if_icmp .gt 7, 3) := by decide +kernel
theorem dJ9_min_7cf53_5 : decode cJ9_min_7cf53 5 = .ok (.iload_n 0, 1) := by decide +kernel
theorem dJ9_min_7cf53_6 : decode cJ9_min_7cf53 6 = .ok (.goto 4, 3) := by decide +kernel
theorem dJ9_min_7cf53_9 : decode cJ9_min_7cf53 9 = .ok (.iload_n 1, 1) := by decide +kernel
theorem dJ9_min_7cf53_10 : decode cJ9_min_7cf53 10 = .ok (.ireturn, 1) := by decide +kernel
theorem dJ9_min_f86c9_0 : decode cJ9_min_f86c9 0 = .ok (.lload_n 0, 1) := by decide +kernel
theorem dJ9_min_f86c9_1 : decode cJ9_min_f86c9 1 = .ok (.lload_n 2, 1) := by decide +kernel
theorem dJ9_min_f86c9_2 : decode cJ9_min_f86c9 2 = .ok (.lcmp, 1) := by decide +kernel
theorem dJ9_min_f86c9_3 : decode cJ9_min_f86c9 3 = .ok (.ifCond .gt 7, 3) := by decide +kernel
theorem dJ9_min_f86c9_6 : decode cJ9_min_f86c9 6 = .ok (.lload_n 0, 1) := by decide +kernel
theorem dJ9_min_f86c9_7 : decode cJ9_min_f86c9 7 = .ok (.goto 4, 3) := by decide +kernel
theorem dJ9_min_f86c9_10 : decode cJ9_min_f86c9 10 = .ok (.lload_n 2, 1) := by decide +kernel
theorem dJ9_min_f86c9_11 : decode cJ9_min_f86c9 11 = .ok (.lreturn, 1) := by decide +kernel
set_option maxRecDepth 20000 in
theorem ggL_law_X2_init : GoodIn wsL_law wsX2_init := goodIn_r _ [9, 10, 11, 12, 13, 14, 15, 16, 17, 18, 19, 20, 21, 22, 23, 24, 25, 26, 27, 28, 29, 30, 31, 32, 33, 34, 35, 36, 37, 38, 39, 40, 41, 42, 43, 2, 44, 45, 46, 550, 551, 552, 553, 554, 555, 556, 557, 558, 559, 560, 561, 562, 563, 564, 586, 587, 588, 589] (by decide +kernel) (by decide +kernel)
set_option maxRecDepth 20000 in
theorem gL_law_X2_init : GoodIn wsL_law (wsX2_init) := ggL_law_X2_init
set_option maxRecDepth 20000 in
theorem ggL_law_X3_init : GoodIn wsL_law wsX3_init := goodIn_r _ [49, 50, 11, 12, 21, 51, 13, 52, 15, 53, 54, 55, 56, 57, 58, 59, 60, 61, 62, 63, 64, 65, 66, 67, 5, 68, 69, 70, 71, 72, 73, 74, 75, 76, 77, 78, 79, 80, 81, 82, 565, 566, 567, 568, 569, 570, 571, 572, 573, 574, 575, 576, 577, 578, 579, 580, 581, 582, 583, 584, 585] (by decide +kernel) (by decide +kernel)
set_option maxRecDepth 20000 in
theorem gL_law_X3_init : GoodIn wsL_law (wsX3_init) := ggL_law_X3_init
set_option maxRecDepth 20000 in
theorem ggL_law_X2_set : GoodIn wsL_law wsX2_set := goodIn_r _ [86, 31, 87, 88, 89, 2, 90, 91, 92, 93, 94, 95, 96, 97, 98, 22, 99, 100, 101, 46, 102, 103, 104, 105, 106, 107, 108, 109, 110, 111, 112, 113, 114, 115, 14, 16, 17, 18, 19, 20, 550, 551, 552, 553, 554, 555, 556, 557, 558, 559, 560, 561, 562, 563, 564] (by decide +kernel) (by decide +kernel)
set_option maxRecDepth 20000 in
theorem gL_law_X2_set : GoodIn wsL_law (wsV RL 15 RX2 yX2_set wsX2_set) := goodIn_app (goodIn_of _ (by decide +kernel)) ggL_law_X2_set
set_option maxRecDepth 20000 in
theorem ggL_law_X3_set : GoodIn wsL_law wsX3_set := goodIn_r _ [119, 120, 52, 53, 54, 55, 56, 57, 121, 122, 123, 5, 124, 51, 125, 126, 127, 128, 129, 130, 131, 132, 133, 134, 135, 136, 137, 138, 139, 140, 141, 78, 79, 80, 81, 82, 69, 70, 71, 72, 73, 74, 75, 76, 77, 565, 566, 567, 568, 569, 570, 571, 572, 573, 574, 575, 576, 577, 578, 579, 580, 581, 582, 583, 584, 585] (by decide +kernel) (by decide +kernel)
set_option maxRecDepth 20000 in
theorem gL_law_X3_set : GoodIn wsL_law (wsV RL 19 RX3 yX3_set wsX3_set) := goodIn_app (goodIn_of _ (by decide +kernel)) ggL_law_X3_set
set_option maxRecDepth 20000 in
theorem ggL_law_X2_get : GoodIn wsL_law wsX2_get := goodIn_r _ [145, 31, 91, 92, 93, 2, 94, 95, 96, 97, 98, 22, 146, 147, 148, 149, 14, 16, 17, 18, 19, 20, 550, 551, 552, 553, 554, 555, 556, 557, 558, 559, 560, 561, 562, 563, 564] (by decide +kernel) (by decide +kernel)
set_option maxRecDepth 20000 in
theorem gL_law_X2_get : GoodIn wsL_law (wsV RL 20 RX2 yX2_get wsX2_get) := goodIn_app (goodIn_of _ (by decide +kernel)) ggL_law_X2_get
set_option maxRecDepth 20000 in
theorem ggL_law_X3_get : GoodIn wsL_law wsX3_get := goodIn_r _ [153, 120, 52, 53, 54, 55, 56, 57, 121, 122, 123, 5, 124, 51, 125, 126, 127, 565, 566, 567, 568, 569, 570, 571, 572, 573, 574, 575, 576, 577, 578, 579, 580, 581, 582, 583, 584, 585] (by decide +kernel) (by decide +kernel)
set_option maxRecDepth 20000 in
theorem gL_law_X3_get : GoodIn wsL_law (wsV RL 24 RX3 yX3_get wsX3_get) := goodIn_app (goodIn_of _ (by decide +kernel)) ggL_law_X3_get
set_option maxRecDepth 20000 in
theorem ggL_law_X2_refused : GoodIn wsL_law wsX2_refused := goodIn_r _ [157, 31, 550, 551, 552, 553, 554, 555, 556, 557, 558, 559, 560, 561, 562, 563, 564] (by decide +kernel) (by decide +kernel)
set_option maxRecDepth 20000 in
theorem gL_law_X2_refused : GoodIn wsL_law (wsV RL 25 RX2 yX2_refused wsX2_refused) := goodIn_app (goodIn_of _ (by decide +kernel)) ggL_law_X2_refused
set_option maxRecDepth 20000 in
theorem ggL_law_X3_refused : GoodIn wsL_law wsX3_refused := goodIn_r _ [161, 120, 565, 566, 567, 568, 569, 570, 571, 572, 573, 574, 575, 576, 577, 578, 579, 580, 581, 582, 583, 584, 585] (by decide +kernel) (by decide +kernel)
set_option maxRecDepth 20000 in
theorem gL_law_X3_refused : GoodIn wsL_law (wsV RL 29 RX3 yX3_refused wsX3_refused) := goodIn_app (goodIn_of _ (by decide +kernel)) ggL_law_X3_refused
set_option maxRecDepth 20000 in
theorem ggL_law_X2_cut : GoodIn wsL_law wsX2_cut := goodIn_r _ [165, 31, 22, 95, 96, 97, 2, 98, 550, 551, 552, 553, 554, 555, 556, 557, 558, 559, 560, 561, 562, 563, 564] (by decide +kernel) (by decide +kernel)
set_option maxRecDepth 20000 in
theorem gL_law_X2_cut : GoodIn wsL_law (wsV RL 30 RX2 yX2_cut wsX2_cut) := goodIn_app (goodIn_of _ (by decide +kernel)) ggL_law_X2_cut
set_option maxRecDepth 20000 in
theorem ggL_law_X3_cut : GoodIn wsL_law wsX3_cut := goodIn_r _ [169, 120, 51, 121, 122, 123, 5, 124, 125, 126, 127, 565, 566, 567, 568, 569, 570, 571, 572, 573, 574, 575, 576, 577, 578, 579, 580, 581, 582, 583, 584, 585] (by decide +kernel) (by decide +kernel)
set_option maxRecDepth 20000 in
theorem gL_law_X3_cut : GoodIn wsL_law (wsV RL 34 RX3 yX3_cut wsX3_cut) := goodIn_app (goodIn_of _ (by decide +kernel)) ggL_law_X3_cut
set_option maxRecDepth 20000 in
theorem ggL_law_X2_string : GoodIn wsL_law wsX2_string := goodIn_r _ [173, 31, 174, 175, 176, 2, 177, 95, 96, 97, 98, 22, 41, 42, 43, 44, 14, 16, 17, 18, 19, 45, 20, 46, 550, 551, 552, 553, 554, 555, 556, 557, 558, 559, 560, 561, 562, 563, 564] (by decide +kernel) (by decide +kernel)
set_option maxRecDepth 20000 in
theorem gL_law_X2_string : GoodIn wsL_law (wsV RL 35 RX2 yX2_string wsX2_string) := goodIn_app (goodIn_of _ (by decide +kernel)) ggL_law_X2_string
set_option maxRecDepth 20000 in
theorem ggL_law_X3_string : GoodIn wsL_law wsX3_string := goodIn_r _ [181, 51, 120, 125, 126, 5, 127, 65, 66, 67, 68, 52, 53, 54, 55, 56, 57, 69, 70, 71, 72, 73, 74, 75, 76, 77, 78, 79, 80, 81, 82, 565, 566, 567, 568, 569, 570, 571, 572, 573, 574, 575, 576, 577, 578, 579, 580, 581, 582, 583, 584, 585] (by decide +kernel) (by decide +kernel)
set_option maxRecDepth 20000 in
theorem gL_law_X3_string : GoodIn wsL_law (wsV RL 38 RX3 yX3_string wsX3_string) := goodIn_app (goodIn_of _ (by decide +kernel)) ggL_law_X3_string
set_option maxRecDepth 20000 in
theorem ggL_law_X2_move : GoodIn wsL_law wsX2_move := goodIn_r _ [185, 31, 32, 186, 187, 188, 2, 189, 95, 96, 97, 98, 22, 190, 191, 192, 193, 194, 195, 196, 197, 198, 199, 200, 14, 16, 201, 202, 203, 204, 17, 205, 206, 207, 208, 18, 209, 210, 211, 103, 104, 105, 106, 107, 212, 213, 214, 215, 108, 109, 110, 111, 216, 217, 218, 219, 220, 221, 222, 223, 224, 225, 226, 227, 228, 229, 230, 231, 232, 233, 234, 235, 236, 237, 238, 239, 240, 241, 242, 243, 244, 245, 246, 247, 248, 249, 250, 251, 252, 253, 254, 255, 256, 257, 258, 259, 260, 261, 262, 263, 264, 265, 266, 267, 268, 269, 270, 271, 272, 273, 274, 275, 276, 277, 278, 279, 280, 281, 282, 283, 284, 285, 286, 287, 288, 289, 290, 291, 292, 293, 294, 295, 296, 297, 298, 299, 300, 301, 302, 303, 304, 305, 23, 306, 24, 307, 308, 309, 310, 311, 312, 313, 314, 315, 19, 20, 316, 317, 318, 319, 320, 321, 322, 323, 25, 26, 324, 325, 326, 327, 328, 329, 330, 331, 332, 333, 334, 335, 46, 336, 337, 338, 339, 340, 341, 342, 343, 344, 345, 346, 347, 348, 349, 350, 351, 550, 551, 552, 553, 554, 555, 556, 557, 558, 559, 560, 561, 562, 563, 564] (by decide +kernel) (by decide +kernel)
set_option maxRecDepth 20000 in
theorem gL_law_X2_move : GoodIn wsL_law (wsV RL 39 RX2 yX2_move wsX2_move) := goodIn_app (goodIn_of _ (by decide +kernel)) ggL_law_X2_move
set_option maxRecDepth 20000 in
theorem ggL_law_X3_move : GoodIn wsL_law wsX3_move := goodIn_r _ [355, 120, 64, 356, 357, 358, 5, 359, 121, 122, 123, 124, 51, 125, 126, 127, 360, 361, 362, 363, 364, 365, 366, 60, 52, 61, 53, 62, 54, 63, 55, 367, 368, 369, 370, 56, 57, 371, 372, 373, 374, 375, 376, 377, 378, 138, 139, 140, 141, 78, 79, 80, 81, 82, 379, 380, 381, 382, 383, 384, 385, 386, 387, 388, 389, 390, 391, 392, 393, 394, 395, 396, 397, 398, 399, 400, 401, 402, 403, 404, 405, 406, 407, 408, 409, 410, 411, 412, 413, 131, 132, 133, 134, 414, 415, 416, 73, 74, 75, 76, 77, 417, 418, 419, 420, 421, 422, 423, 424, 425, 426, 427, 428, 72, 429, 430, 431, 432, 433, 434, 435, 436, 437, 438, 439, 440, 441, 442, 443, 444, 445, 446, 447, 448, 449, 450, 451, 452, 453, 454, 455, 456, 457, 458, 69, 70, 71, 459, 460, 461, 565, 566, 567, 568, 569, 570, 571, 572, 573, 574, 575, 576, 577, 578, 579, 580, 581, 582, 583, 584, 585] (by decide +kernel) (by decide +kernel)
set_option maxRecDepth 20000 in
theorem gL_law_X3_move : GoodIn wsL_law (wsV RL 43 RX3 yX3_move wsX3_move) := goodIn_app (goodIn_of _ (by decide +kernel)) ggL_law_X3_move
set_option maxRecDepth 20000 in
theorem ggL_law_X2_step : GoodIn wsL_law wsX2_step := goodIn_r _ [465, 30, 466, 467, 468, 469, 550, 551, 552, 553, 554, 555, 556, 557, 558, 559, 560, 561, 562, 563, 564, 586, 587, 588, 589] (by decide +kernel) (by decide +kernel)
set_option maxRecDepth 20000 in
theorem gL_law_X2_step : GoodIn wsL_law (wsV RL 44 RX2 yX2_step wsX2_step) := goodIn_app (goodIn_of _ (by decide +kernel)) ggL_law_X2_step
set_option maxRecDepth 20000 in
theorem ggL_law_X3_step : GoodIn wsL_law wsX3_step := goodIn_r _ [473, 474, 58, 565, 566, 567, 568, 569, 570, 571, 572, 573, 574, 575, 576, 577, 578, 579, 580, 581, 582, 583, 584, 585] (by decide +kernel) (by decide +kernel)
set_option maxRecDepth 20000 in
theorem gL_law_X3_step : GoodIn wsL_law (wsV RL 47 RX3 yX3_step wsX3_step) := goodIn_app (goodIn_of _ (by decide +kernel)) ggL_law_X3_step
set_option maxRecDepth 20000 in
theorem ggL_law_X2_forget : GoodIn wsL_law wsX2_forget := goodIn_r _ [478, 30, 466, 550, 551, 552, 553, 554, 555, 556, 557, 558, 559, 560, 561, 562, 563, 564, 586, 587, 588, 589] (by decide +kernel) (by decide +kernel)
set_option maxRecDepth 20000 in
theorem gL_law_X2_forget : GoodIn wsL_law (wsV RL 48 RX2 yX2_forget wsX2_forget) := goodIn_app (goodIn_of _ (by decide +kernel)) ggL_law_X2_forget
set_option maxRecDepth 20000 in
theorem ggL_law_X3_forget : GoodIn wsL_law wsX3_forget := goodIn_r _ [482, 474, 565, 566, 567, 568, 569, 570, 571, 572, 573, 574, 575, 576, 577, 578, 579, 580, 581, 582, 583, 584, 585] (by decide +kernel) (by decide +kernel)
set_option maxRecDepth 20000 in
theorem gL_law_X3_forget : GoodIn wsL_law (wsV RL 51 RX3 yX3_forget wsX3_forget) := goodIn_app (goodIn_of _ (by decide +kernel)) ggL_law_X3_forget
set_option maxRecDepth 20000 in
theorem ggL_law_X2_dance : GoodIn wsL_law wsX2_dance := goodIn_r _ [486, 31, 193, 194, 195, 2, 196, 32, 487, 488, 489, 490, 30, 466, 467, 468, 469, 186, 187, 188, 189, 95, 96, 97, 98, 22, 190, 191, 192, 197, 198, 199, 200, 14, 16, 201, 202, 203, 204, 17, 205, 206, 207, 208, 18, 209, 210, 211, 103, 104, 105, 106, 107, 212, 213, 214, 215, 108, 109, 110, 111, 216, 217, 218, 219, 220, 221, 222, 223, 224, 225, 226, 227, 228, 229, 230, 231, 232, 233, 234, 235, 236, 237, 238, 239, 240, 241, 242, 243, 244, 245, 246, 247, 248, 249, 250, 251, 252, 253, 254, 255, 256, 257, 258, 259, 260, 261, 262, 263, 264, 265, 266, 267, 268, 269, 270, 271, 272, 273, 274, 275, 276, 277, 278, 279, 280, 281, 282, 283, 284, 285, 286, 287, 288, 289, 290, 291, 292, 293, 294, 295, 296, 297, 298, 299, 300, 301, 302, 303, 304, 305, 23, 306, 24, 307, 308, 309, 310, 311, 312, 313, 314, 315, 19, 20, 316, 317, 318, 319, 320, 321, 322, 323, 25, 26, 324, 325, 326, 327, 328, 329, 330, 331, 332, 333, 334, 335, 46, 336, 337, 338, 339, 340, 341, 342, 343, 344, 345, 346, 347, 348, 349, 350, 351, 491, 492, 493, 494, 33, 550, 551, 552, 553, 554, 555, 556, 557, 558, 559, 560, 561, 562, 563, 564, 586, 587, 588, 589] (by decide +kernel) (by decide +kernel)
set_option maxRecDepth 20000 in
theorem gL_law_X2_dance : GoodIn wsL_law (wsV RL 52 RX2 yX2_dance wsX2_dance) := goodIn_app (goodIn_of _ (by decide +kernel)) ggL_law_X2_dance
set_option maxRecDepth 20000 in
theorem ggL_law_X3_dance : GoodIn wsL_law wsX3_dance := goodIn_r _ [498, 120, 499, 59, 474, 58, 356, 357, 358, 5, 359, 121, 122, 123, 124, 51, 125, 126, 127, 360, 361, 362, 363, 364, 365, 366, 60, 52, 61, 53, 62, 54, 63, 55, 367, 368, 369, 370, 56, 57, 371, 372, 373, 374, 375, 376, 377, 378, 138, 139, 140, 141, 78, 79, 80, 81, 82, 379, 380, 381, 382, 383, 384, 385, 386, 387, 388, 389, 390, 391, 392, 393, 394, 395, 396, 397, 398, 399, 400, 401, 402, 403, 404, 405, 406, 407, 408, 409, 410, 411, 412, 413, 131, 132, 133, 134, 414, 415, 416, 73, 74, 75, 76, 77, 417, 418, 419, 420, 421, 422, 423, 424, 425, 426, 427, 428, 72, 429, 430, 431, 432, 433, 434, 435, 436, 437, 438, 439, 440, 441, 442, 443, 444, 445, 446, 447, 448, 449, 450, 451, 452, 453, 454, 455, 456, 457, 458, 69, 70, 71, 459, 460, 461, 565, 566, 567, 568, 569, 570, 571, 572, 573, 574, 575, 576, 577, 578, 579, 580, 581, 582, 583, 584, 585] (by decide +kernel) (by decide +kernel)
set_option maxRecDepth 20000 in
theorem gL_law_X3_dance : GoodIn wsL_law (wsV RL 55 RX3 yX3_dance wsX3_dance) := goodIn_app (goodIn_of _ (by decide +kernel)) ggL_law_X3_dance
set_option maxRecDepth 20000 in
theorem ggL_law_X2_danced : GoodIn wsL_law wsX2_danced := goodIn_r _ [503, 33, 550, 551, 552, 553, 554, 555, 556, 557, 558, 559, 560, 561, 562, 563, 564] (by decide +kernel) (by decide +kernel)
set_option maxRecDepth 20000 in
theorem gL_law_X2_danced : GoodIn wsL_law (wsV RL 56 RX2 yX2_danced wsX2_danced) := goodIn_app (goodIn_of _ (by decide +kernel)) ggL_law_X2_danced
set_option maxRecDepth 20000 in
theorem ggL_law_X3_danced : GoodIn wsL_law wsX3_danced := goodIn_r _ [507, 499, 59, 565, 566, 567, 568, 569, 570, 571, 572, 573, 574, 575, 576, 577, 578, 579, 580, 581, 582, 583, 584, 585] (by decide +kernel) (by decide +kernel)
set_option maxRecDepth 20000 in
theorem gL_law_X3_danced : GoodIn wsL_law (wsV RL 59 RX3 yX3_danced wsX3_danced) := goodIn_app (goodIn_of _ (by decide +kernel)) ggL_law_X3_danced
set_option maxRecDepth 20000 in
theorem ggL_law_X2_bar : GoodIn wsL_law wsX2_bar := goodIn_r _ [511, 23, 24, 25, 26, 550, 551, 552, 553, 554, 555, 556, 557, 558, 559, 560, 561, 562, 563, 564] (by decide +kernel) (by decide +kernel)
set_option maxRecDepth 20000 in
theorem gL_law_X2_bar : GoodIn wsL_law (wsV RL 60 RX2 yX2_bar wsX2_bar) := goodIn_app (goodIn_of _ (by decide +kernel)) ggL_law_X2_bar
set_option maxRecDepth 20000 in
theorem ggL_law_X3_bar : GoodIn wsL_law wsX3_bar := goodIn_r _ [515, 371, 372, 373, 374, 565, 566, 567, 568, 569, 570, 571, 572, 573, 574, 575, 576, 577, 578, 579, 580, 581, 582, 583, 584, 585] (by decide +kernel) (by decide +kernel)
set_option maxRecDepth 20000 in
theorem gL_law_X3_bar : GoodIn wsL_law (wsV RL 64 RX3 yX3_bar wsX3_bar) := goodIn_app (goodIn_of _ (by decide +kernel)) ggL_law_X3_bar
set_option maxRecDepth 20000 in
theorem ggL_law_X2_order : GoodIn wsL_law wsX2_order := goodIn_r _ [519, 520, 521, 522, 2, 523, 524, 525, 526, 527, 22, 528, 529, 530, 531, 14, 16, 17, 18, 532, 242, 105, 243, 107, 533, 534, 535, 536, 537, 248, 249, 111, 538, 539, 540, 541, 550, 551, 552, 553, 554, 555, 556, 557, 558, 559, 560, 561, 562, 563, 564] (by decide +kernel) (by decide +kernel)
set_option maxRecDepth 20000 in
theorem gL_law_X2_order : GoodIn wsL_law (wsV RL 65 RX2 yX2_order wsX2_order) := goodIn_app (goodIn_of _ (by decide +kernel)) ggL_law_X2_order
set_option maxRecDepth 20000 in
theorem ggL_law_X3_order : GoodIn wsL_law wsX3_order := goodIn_r _ [545, 546, 547, 548, 5, 549, 51, 52, 53, 54, 55, 390, 391, 392, 393, 397, 398, 399, 382, 565, 566, 567, 568, 569, 570, 571, 572, 573, 574, 575, 576, 577, 578, 579, 580, 581, 582, 583, 584, 585] (by decide +kernel) (by decide +kernel)
set_option maxRecDepth 20000 in
theorem gL_law_X3_order : GoodIn wsL_law (wsV RL 68 RX3 yX3_order wsX3_order) := goodIn_app (goodIn_of _ (by decide +kernel)) ggL_law_X3_order
theorem dL_law_0 : decode cL_law 0 = .ok (.new 7, 3) := by decide +kernel
theorem dL_law_3 : decode cL_law 3 = .ok (.dup, 1) := by decide +kernel
theorem dL_law_4 : decode cL_law 4 = .ok (.invokespecial 9, 3) := by decide +kernel
theorem dL_law_7 : decode cL_law 7 = .ok (.astore_n 1, 1) := by decide +kernel
theorem dL_law_8 : decode cL_law 8 = .ok (.new 10, 3) := by decide +kernel
theorem dL_law_11 : decode cL_law 11 = .ok (.dup, 1) := by decide +kernel
theorem dL_law_12 : decode cL_law 12 = .ok (.invokespecial 12, 3) := by decide +kernel
theorem dL_law_15 : decode cL_law 15 = .ok (.astore_n 2, 1) := by decide +kernel
theorem dL_law_16 : decode cL_law 16 = .ok (.iconst 0, 1) := by decide +kernel
theorem dL_law_17 : decode cL_law 17 = .ok (.istore_n 3, 1) := by decide +kernel
theorem dL_law_18 : decode cL_law 18 = .ok (.iload_n 3, 1) := by decide +kernel
theorem dL_law_19 : decode cL_law 19 = .ok (.aload_n 0, 1) := by decide +kernel
theorem dL_law_20 : decode cL_law 20 = .ok (.arraylength, 1) := by decide +kernel
theorem dL_law_21 : decode cL_law 21 = .ok (.iconst 5, 1) := by decide +kernel
theorem dL_law_22 : decode cL_law 22 = .ok (.isub, 1) := by decide +kernel
theorem dL_law_23 : decode cL_law 23 = .ok (.if_icmp .gt 437, 3) := by decide +kernel
theorem dL_law_26 : decode cL_law 26 = .ok (.aload_n 0, 1) := by decide +kernel
theorem dL_law_27 : decode cL_law 27 = .ok (.iload_n 3, 1) := by decide +kernel
theorem dL_law_28 : decode cL_law 28 = .ok (.iaload, 1) := by decide +kernel
theorem dL_law_29 : decode cL_law 29 = .ok (.bipush 15, 2) := by decide +kernel
theorem dL_law_31 : decode cL_law 31 = .ok (.iand, 1) := by decide +kernel
theorem dL_law_32 : decode cL_law 32 = .ok (.tableswitch 422 0 11 #[64, 137, 171, 184, 207, 230, 273, 316, 329, 352, 375, 399], 64) := by decide +kernel
theorem dL_law_96 : decode cL_law 96 = .ok (.aload_n 1, 1) := by decide +kernel
theorem dL_law_97 : decode cL_law 97 = .ok (.aload_n 0, 1) := by decide +kernel
theorem dL_law_98 : decode cL_law 98 = .ok (.iload_n 3, 1) := by decide +kernel
theorem dL_law_99 : decode cL_law 99 = .ok (.iconst 1, 1) := by decide +kernel
theorem dL_law_100 : decode cL_law 100 = .ok (.iadd, 1) := by decide +kernel
theorem dL_law_101 : decode cL_law 101 = .ok (.iaload, 1) := by decide +kernel
theorem dL_law_102 : decode cL_law 102 = .ok (.aload_n 0, 1) := by decide +kernel
theorem dL_law_103 : decode cL_law 103 = .ok (.iload_n 3, 1) := by decide +kernel
theorem dL_law_104 : decode cL_law 104 = .ok (.iconst 2, 1) := by decide +kernel
theorem dL_law_105 : decode cL_law 105 = .ok (.iadd, 1) := by decide +kernel
theorem dL_law_106 : decode cL_law 106 = .ok (.iaload, 1) := by decide +kernel
theorem dL_law_107 : decode cL_law 107 = .ok (.aload_n 0, 1) := by decide +kernel
theorem dL_law_108 : decode cL_law 108 = .ok (.iload_n 3, 1) := by decide +kernel
theorem dL_law_109 : decode cL_law 109 = .ok (.iconst 3, 1) := by decide +kernel
theorem dL_law_110 : decode cL_law 110 = .ok (.iadd, 1) := by decide +kernel
theorem dL_law_111 : decode cL_law 111 = .ok (.iaload, 1) := by decide +kernel
theorem dL_law_112 : decode cL_law 112 = .ok (.i2l, 1) := by decide +kernel
theorem dL_law_113 : decode cL_law 113 = .ok (.bipush 32, 2) := by decide +kernel
theorem dL_law_115 : decode cL_law 115 = .ok (.lshl, 1) := by decide +kernel
theorem dL_law_116 : decode cL_law 116 = .ok (.aload_n 0, 1) := by decide +kernel
theorem dL_law_117 : decode cL_law 117 = .ok (.iload_n 3, 1) := by decide +kernel
theorem dL_law_118 : decode cL_law 118 = .ok (.iconst 4, 1) := by decide +kernel
theorem dL_law_119 : decode cL_law 119 = .ok (.iadd, 1) := by decide +kernel
theorem dL_law_120 : decode cL_law 120 = .ok (.iaload, 1) := by decide +kernel
theorem dL_law_121 : decode cL_law 121 = .ok (.i2l, 1) := by decide +kernel
theorem dL_law_122 : decode cL_law 122 = .ok (.ldc2_w 13, 3) := by decide +kernel
theorem dL_law_125 : decode cL_law 125 = .ok (.land, 1) := by decide +kernel
theorem dL_law_126 : decode cL_law 126 = .ok (.lor, 1) := by decide +kernel
theorem dL_law_127 : decode cL_law 127 = .ok (.invokevirtual 15, 3) := by decide +kernel
theorem dL_law_130 : decode cL_law 130 = .ok (.aload_n 2, 1) := by decide +kernel
theorem dL_law_131 : decode cL_law 131 = .ok (.aload_n 0, 1) := by decide +kernel
theorem dL_law_132 : decode cL_law 132 = .ok (.iload_n 3, 1) := by decide +kernel
theorem dL_law_133 : decode cL_law 133 = .ok (.iconst 1, 1) := by decide +kernel
theorem dL_law_134 : decode cL_law 134 = .ok (.iadd, 1) := by decide +kernel
theorem dL_law_135 : decode cL_law 135 = .ok (.iaload, 1) := by decide +kernel
theorem dL_law_136 : decode cL_law 136 = .ok (.aload_n 0, 1) := by decide +kernel
theorem dL_law_137 : decode cL_law 137 = .ok (.iload_n 3, 1) := by decide +kernel
theorem dL_law_138 : decode cL_law 138 = .ok (.iconst 2, 1) := by decide +kernel
theorem dL_law_139 : decode cL_law 139 = .ok (.iadd, 1) := by decide +kernel
theorem dL_law_140 : decode cL_law 140 = .ok (.iaload, 1) := by decide +kernel
theorem dL_law_141 : decode cL_law 141 = .ok (.aload_n 0, 1) := by decide +kernel
theorem dL_law_142 : decode cL_law 142 = .ok (.iload_n 3, 1) := by decide +kernel
theorem dL_law_143 : decode cL_law 143 = .ok (.iconst 3, 1) := by decide +kernel
theorem dL_law_144 : decode cL_law 144 = .ok (.iadd, 1) := by decide +kernel
theorem dL_law_145 : decode cL_law 145 = .ok (.iaload, 1) := by decide +kernel
theorem dL_law_146 : decode cL_law 146 = .ok (.i2l, 1) := by decide +kernel
theorem dL_law_147 : decode cL_law 147 = .ok (.bipush 32, 2) := by decide +kernel
theorem dL_law_149 : decode cL_law 149 = .ok (.lshl, 1) := by decide +kernel
theorem dL_law_150 : decode cL_law 150 = .ok (.aload_n 0, 1) := by decide +kernel
theorem dL_law_151 : decode cL_law 151 = .ok (.iload_n 3, 1) := by decide +kernel
theorem dL_law_152 : decode cL_law 152 = .ok (.iconst 4, 1) := by decide +kernel
theorem dL_law_153 : decode cL_law 153 = .ok (.iadd, 1) := by decide +kernel
theorem dL_law_154 : decode cL_law 154 = .ok (.iaload, 1) := by decide +kernel
theorem dL_law_155 : decode cL_law 155 = .ok (.i2l, 1) := by decide +kernel
theorem dL_law_156 : decode cL_law 156 = .ok (.ldc2_w 13, 3) := by decide +kernel
theorem dL_law_159 : decode cL_law 159 = .ok (.land, 1) := by decide +kernel
theorem dL_law_160 : decode cL_law 160 = .ok (.lor, 1) := by decide +kernel
theorem dL_law_161 : decode cL_law 161 = .ok (.invokevirtual 19, 3) := by decide +kernel
theorem dL_law_164 : decode cL_law 164 = .ok (.if_icmp .eq 290, 3) := by decide +kernel
theorem dL_law_167 : decode cL_law 167 = .ok (.iconst 0, 1) := by decide +kernel
theorem dL_law_168 : decode cL_law 168 = .ok (.ireturn, 1) := by decide +kernel
theorem dL_law_169 : decode cL_law 169 = .ok (.aload_n 1, 1) := by decide +kernel
theorem dL_law_170 : decode cL_law 170 = .ok (.aload_n 0, 1) := by decide +kernel
theorem dL_law_171 : decode cL_law 171 = .ok (.iload_n 3, 1) := by decide +kernel
theorem dL_law_172 : decode cL_law 172 = .ok (.iconst 1, 1) := by decide +kernel
theorem dL_law_173 : decode cL_law 173 = .ok (.iadd, 1) := by decide +kernel
theorem dL_law_174 : decode cL_law 174 = .ok (.iaload, 1) := by decide +kernel
theorem dL_law_175 : decode cL_law 175 = .ok (.aload_n 0, 1) := by decide +kernel
theorem dL_law_176 : decode cL_law 176 = .ok (.iload_n 3, 1) := by decide +kernel
theorem dL_law_177 : decode cL_law 177 = .ok (.iconst 2, 1) := by decide +kernel
theorem dL_law_178 : decode cL_law 178 = .ok (.iadd, 1) := by decide +kernel
theorem dL_law_179 : decode cL_law 179 = .ok (.iaload, 1) := by decide +kernel
theorem dL_law_180 : decode cL_law 180 = .ok (.invokevirtual 20, 3) := by decide +kernel
theorem dL_law_183 : decode cL_law 183 = .ok (.aload_n 2, 1) := by decide +kernel
theorem dL_law_184 : decode cL_law 184 = .ok (.aload_n 0, 1) := by decide +kernel
theorem dL_law_185 : decode cL_law 185 = .ok (.iload_n 3, 1) := by decide +kernel
theorem dL_law_186 : decode cL_law 186 = .ok (.iconst 1, 1) := by decide +kernel
theorem dL_law_187 : decode cL_law 187 = .ok (.iadd, 1) := by decide +kernel
theorem dL_law_188 : decode cL_law 188 = .ok (.iaload, 1) := by decide +kernel
theorem dL_law_189 : decode cL_law 189 = .ok (.aload_n 0, 1) := by decide +kernel
theorem dL_law_190 : decode cL_law 190 = .ok (.iload_n 3, 1) := by decide +kernel
theorem dL_law_191 : decode cL_law 191 = .ok (.iconst 2, 1) := by decide +kernel
theorem dL_law_192 : decode cL_law 192 = .ok (.iadd, 1) := by decide +kernel
theorem dL_law_193 : decode cL_law 193 = .ok (.iaload, 1) := by decide +kernel
theorem dL_law_194 : decode cL_law 194 = .ok (.invokevirtual 24, 3) := by decide +kernel
theorem dL_law_197 : decode cL_law 197 = .ok (.lcmp, 1) := by decide +kernel
theorem dL_law_198 : decode cL_law 198 = .ok (.ifCond .eq 256, 3) := by decide +kernel
theorem dL_law_201 : decode cL_law 201 = .ok (.iconst 0, 1) := by decide +kernel
theorem dL_law_202 : decode cL_law 202 = .ok (.ireturn, 1) := by decide +kernel
theorem dL_law_203 : decode cL_law 203 = .ok (.aload_n 1, 1) := by decide +kernel
theorem dL_law_204 : decode cL_law 204 = .ok (.invokevirtual 25, 3) := by decide +kernel
theorem dL_law_207 : decode cL_law 207 = .ok (.aload_n 2, 1) := by decide +kernel
theorem dL_law_208 : decode cL_law 208 = .ok (.invokevirtual 29, 3) := by decide +kernel
theorem dL_law_211 : decode cL_law 211 = .ok (.if_icmp .eq 243, 3) := by decide +kernel
theorem dL_law_214 : decode cL_law 214 = .ok (.iconst 0, 1) := by decide +kernel
theorem dL_law_215 : decode cL_law 215 = .ok (.ireturn, 1) := by decide +kernel
theorem dL_law_216 : decode cL_law 216 = .ok (.aload_n 1, 1) := by decide +kernel
theorem dL_law_217 : decode cL_law 217 = .ok (.aload_n 0, 1) := by decide +kernel
theorem dL_law_218 : decode cL_law 218 = .ok (.iload_n 3, 1) := by decide +kernel
theorem dL_law_219 : decode cL_law 219 = .ok (.iconst 1, 1) := by decide +kernel
theorem dL_law_220 : decode cL_law 220 = .ok (.iadd, 1) := by decide +kernel
theorem dL_law_221 : decode cL_law 221 = .ok (.iaload, 1) := by decide +kernel
theorem dL_law_222 : decode cL_law 222 = .ok (.invokevirtual 30, 3) := by decide +kernel
theorem dL_law_225 : decode cL_law 225 = .ok (.aload_n 2, 1) := by decide +kernel
theorem dL_law_226 : decode cL_law 226 = .ok (.aload_n 0, 1) := by decide +kernel
theorem dL_law_227 : decode cL_law 227 = .ok (.iload_n 3, 1) := by decide +kernel
theorem dL_law_228 : decode cL_law 228 = .ok (.iconst 1, 1) := by decide +kernel
theorem dL_law_229 : decode cL_law 229 = .ok (.iadd, 1) := by decide +kernel
theorem dL_law_230 : decode cL_law 230 = .ok (.iaload, 1) := by decide +kernel
theorem dL_law_231 : decode cL_law 231 = .ok (.invokevirtual 34, 3) := by decide +kernel
theorem dL_law_234 : decode cL_law 234 = .ok (.if_icmp .eq 220, 3) := by decide +kernel
theorem dL_law_237 : decode cL_law 237 = .ok (.iconst 0, 1) := by decide +kernel
theorem dL_law_238 : decode cL_law 238 = .ok (.ireturn, 1) := by decide +kernel
theorem dL_law_239 : decode cL_law 239 = .ok (.aload_n 1, 1) := by decide +kernel
theorem dL_law_240 : decode cL_law 240 = .ok (.aload_n 0, 1) := by decide +kernel
theorem dL_law_241 : decode cL_law 241 = .ok (.iload_n 3, 1) := by decide +kernel
theorem dL_law_242 : decode cL_law 242 = .ok (.iconst 1, 1) := by decide +kernel
theorem dL_law_243 : decode cL_law 243 = .ok (.iadd, 1) := by decide +kernel
theorem dL_law_244 : decode cL_law 244 = .ok (.iaload, 1) := by decide +kernel
theorem dL_law_245 : decode cL_law 245 = .ok (.invokevirtual 35, 3) := by decide +kernel
theorem dL_law_248 : decode cL_law 248 = .ok (.aload_n 2, 1) := by decide +kernel
theorem dL_law_249 : decode cL_law 249 = .ok (.aload_n 0, 1) := by decide +kernel
theorem dL_law_250 : decode cL_law 250 = .ok (.iload_n 3, 1) := by decide +kernel
theorem dL_law_251 : decode cL_law 251 = .ok (.iconst 1, 1) := by decide +kernel
theorem dL_law_252 : decode cL_law 252 = .ok (.iadd, 1) := by decide +kernel
theorem dL_law_253 : decode cL_law 253 = .ok (.iaload, 1) := by decide +kernel
theorem dL_law_254 : decode cL_law 254 = .ok (.invokevirtual 38, 3) := by decide +kernel
theorem dL_law_257 : decode cL_law 257 = .ok (.if_icmp .eq 197, 3) := by decide +kernel
theorem dL_law_260 : decode cL_law 260 = .ok (.iconst 0, 1) := by decide +kernel
theorem dL_law_261 : decode cL_law 261 = .ok (.ireturn, 1) := by decide +kernel
theorem dL_law_262 : decode cL_law 262 = .ok (.aload_n 1, 1) := by decide +kernel
theorem dL_law_263 : decode cL_law 263 = .ok (.aload_n 0, 1) := by decide +kernel
theorem dL_law_264 : decode cL_law 264 = .ok (.iload_n 3, 1) := by decide +kernel
theorem dL_law_265 : decode cL_law 265 = .ok (.iconst 1, 1) := by decide +kernel
theorem dL_law_266 : decode cL_law 266 = .ok (.iadd, 1) := by decide +kernel
theorem dL_law_267 : decode cL_law 267 = .ok (.iaload, 1) := by decide +kernel
theorem dL_law_268 : decode cL_law 268 = .ok (.aload_n 0, 1) := by decide +kernel
theorem dL_law_269 : decode cL_law 269 = .ok (.iload_n 3, 1) := by decide +kernel
theorem dL_law_270 : decode cL_law 270 = .ok (.iconst 2, 1) := by decide +kernel
theorem dL_law_271 : decode cL_law 271 = .ok (.iadd, 1) := by decide +kernel
theorem dL_law_272 : decode cL_law 272 = .ok (.iaload, 1) := by decide +kernel
theorem dL_law_273 : decode cL_law 273 = .ok (.aload_n 0, 1) := by decide +kernel
theorem dL_law_274 : decode cL_law 274 = .ok (.iload_n 3, 1) := by decide +kernel
theorem dL_law_275 : decode cL_law 275 = .ok (.iconst 3, 1) := by decide +kernel
theorem dL_law_276 : decode cL_law 276 = .ok (.iadd, 1) := by decide +kernel
theorem dL_law_277 : decode cL_law 277 = .ok (.iaload, 1) := by decide +kernel
theorem dL_law_278 : decode cL_law 278 = .ok (.invokevirtual 39, 3) := by decide +kernel
theorem dL_law_281 : decode cL_law 281 = .ok (.aload_n 2, 1) := by decide +kernel
theorem dL_law_282 : decode cL_law 282 = .ok (.aload_n 0, 1) := by decide +kernel
theorem dL_law_283 : decode cL_law 283 = .ok (.iload_n 3, 1) := by decide +kernel
theorem dL_law_284 : decode cL_law 284 = .ok (.iconst 1, 1) := by decide +kernel
theorem dL_law_285 : decode cL_law 285 = .ok (.iadd, 1) := by decide +kernel
theorem dL_law_286 : decode cL_law 286 = .ok (.iaload, 1) := by decide +kernel
theorem dL_law_287 : decode cL_law 287 = .ok (.aload_n 0, 1) := by decide +kernel
theorem dL_law_288 : decode cL_law 288 = .ok (.iload_n 3, 1) := by decide +kernel
theorem dL_law_289 : decode cL_law 289 = .ok (.iconst 2, 1) := by decide +kernel
theorem dL_law_290 : decode cL_law 290 = .ok (.iadd, 1) := by decide +kernel
theorem dL_law_291 : decode cL_law 291 = .ok (.iaload, 1) := by decide +kernel
theorem dL_law_292 : decode cL_law 292 = .ok (.aload_n 0, 1) := by decide +kernel
theorem dL_law_293 : decode cL_law 293 = .ok (.iload_n 3, 1) := by decide +kernel
theorem dL_law_294 : decode cL_law 294 = .ok (.iconst 3, 1) := by decide +kernel
theorem dL_law_295 : decode cL_law 295 = .ok (.iadd, 1) := by decide +kernel
theorem dL_law_296 : decode cL_law 296 = .ok (.iaload, 1) := by decide +kernel
theorem dL_law_297 : decode cL_law 297 = .ok (.invokevirtual 43, 3) := by decide +kernel
theorem dL_law_300 : decode cL_law 300 = .ok (.if_icmp .eq 154, 3) := by decide +kernel
theorem dL_law_303 : decode cL_law 303 = .ok (.iconst 0, 1) := by decide +kernel
theorem dL_law_304 : decode cL_law 304 = .ok (.ireturn, 1) := by decide +kernel
theorem dL_law_305 : decode cL_law 305 = .ok (.aload_n 1, 1) := by decide +kernel
theorem dL_law_306 : decode cL_law 306 = .ok (.aload_n 0, 1) := by decide +kernel
theorem dL_law_307 : decode cL_law 307 = .ok (.iload_n 3, 1) := by decide +kernel
theorem dL_law_308 : decode cL_law 308 = .ok (.iconst 1, 1) := by decide +kernel
theorem dL_law_309 : decode cL_law 309 = .ok (.iadd, 1) := by decide +kernel
theorem dL_law_310 : decode cL_law 310 = .ok (.iaload, 1) := by decide +kernel
theorem dL_law_311 : decode cL_law 311 = .ok (.aload_n 0, 1) := by decide +kernel
theorem dL_law_312 : decode cL_law 312 = .ok (.iload_n 3, 1) := by decide +kernel
theorem dL_law_313 : decode cL_law 313 = .ok (.iconst 2, 1) := by decide +kernel
theorem dL_law_314 : decode cL_law 314 = .ok (.iadd, 1) := by decide +kernel
theorem dL_law_315 : decode cL_law 315 = .ok (.iaload, 1) := by decide +kernel
theorem dL_law_316 : decode cL_law 316 = .ok (.aload_n 0, 1) := by decide +kernel
theorem dL_law_317 : decode cL_law 317 = .ok (.iload_n 3, 1) := by decide +kernel
theorem dL_law_318 : decode cL_law 318 = .ok (.iconst 3, 1) := by decide +kernel
theorem dL_law_319 : decode cL_law 319 = .ok (.iadd, 1) := by decide +kernel
theorem dL_law_320 : decode cL_law 320 = .ok (.iaload, 1) := by decide +kernel
theorem dL_law_321 : decode cL_law 321 = .ok (.invokevirtual 44, 3) := by decide +kernel
theorem dL_law_324 : decode cL_law 324 = .ok (.aload_n 2, 1) := by decide +kernel
theorem dL_law_325 : decode cL_law 325 = .ok (.aload_n 0, 1) := by decide +kernel
theorem dL_law_326 : decode cL_law 326 = .ok (.iload_n 3, 1) := by decide +kernel
theorem dL_law_327 : decode cL_law 327 = .ok (.iconst 1, 1) := by decide +kernel
theorem dL_law_328 : decode cL_law 328 = .ok (.iadd, 1) := by decide +kernel
theorem dL_law_329 : decode cL_law 329 = .ok (.iaload, 1) := by decide +kernel
theorem dL_law_330 : decode cL_law 330 = .ok (.aload_n 0, 1) := by decide +kernel
theorem dL_law_331 : decode cL_law 331 = .ok (.iload_n 3, 1) := by decide +kernel
theorem dL_law_332 : decode cL_law 332 = .ok (.iconst 2, 1) := by decide +kernel
theorem dL_law_333 : decode cL_law 333 = .ok (.iadd, 1) := by decide +kernel
theorem dL_law_334 : decode cL_law 334 = .ok (.iaload, 1) := by decide +kernel
theorem dL_law_335 : decode cL_law 335 = .ok (.aload_n 0, 1) := by decide +kernel
theorem dL_law_336 : decode cL_law 336 = .ok (.iload_n 3, 1) := by decide +kernel
theorem dL_law_337 : decode cL_law 337 = .ok (.iconst 3, 1) := by decide +kernel
theorem dL_law_338 : decode cL_law 338 = .ok (.iadd, 1) := by decide +kernel
theorem dL_law_339 : decode cL_law 339 = .ok (.iaload, 1) := by decide +kernel
theorem dL_law_340 : decode cL_law 340 = .ok (.invokevirtual 47, 3) := by decide +kernel
theorem dL_law_343 : decode cL_law 343 = .ok (.if_icmp .eq 111, 3) := by decide +kernel
theorem dL_law_346 : decode cL_law 346 = .ok (.iconst 0, 1) := by decide +kernel
theorem dL_law_347 : decode cL_law 347 = .ok (.ireturn, 1) := by decide +kernel
theorem dL_law_348 : decode cL_law 348 = .ok (.aload_n 1, 1) := by decide +kernel
theorem dL_law_349 : decode cL_law 349 = .ok (.invokevirtual 48, 3) := by decide +kernel
theorem dL_law_352 : decode cL_law 352 = .ok (.aload_n 2, 1) := by decide +kernel
theorem dL_law_353 : decode cL_law 353 = .ok (.invokevirtual 51, 3) := by decide +kernel
theorem dL_law_356 : decode cL_law 356 = .ok (.if_icmp .eq 98, 3) := by decide +kernel
theorem dL_law_359 : decode cL_law 359 = .ok (.iconst 0, 1) := by decide +kernel
theorem dL_law_360 : decode cL_law 360 = .ok (.ireturn, 1) := by decide +kernel
theorem dL_law_361 : decode cL_law 361 = .ok (.aload_n 1, 1) := by decide +kernel
theorem dL_law_362 : decode cL_law 362 = .ok (.aload_n 0, 1) := by decide +kernel
theorem dL_law_363 : decode cL_law 363 = .ok (.iload_n 3, 1) := by decide +kernel
theorem dL_law_364 : decode cL_law 364 = .ok (.iconst 1, 1) := by decide +kernel
theorem dL_law_365 : decode cL_law 365 = .ok (.iadd, 1) := by decide +kernel
theorem dL_law_366 : decode cL_law 366 = .ok (.iaload, 1) := by decide +kernel
theorem dL_law_367 : decode cL_law 367 = .ok (.invokevirtual 52, 3) := by decide +kernel
theorem dL_law_370 : decode cL_law 370 = .ok (.aload_n 2, 1) := by decide +kernel
theorem dL_law_371 : decode cL_law 371 = .ok (.aload_n 0, 1) := by decide +kernel
theorem dL_law_372 : decode cL_law 372 = .ok (.iload_n 3, 1) := by decide +kernel
theorem dL_law_373 : decode cL_law 373 = .ok (.iconst 1, 1) := by decide +kernel
theorem dL_law_374 : decode cL_law 374 = .ok (.iadd, 1) := by decide +kernel
theorem dL_law_375 : decode cL_law 375 = .ok (.iaload, 1) := by decide +kernel
theorem dL_law_376 : decode cL_law 376 = .ok (.invokevirtual 55, 3) := by decide +kernel
theorem dL_law_379 : decode cL_law 379 = .ok (.if_icmp .eq 75, 3) := by decide +kernel
theorem dL_law_382 : decode cL_law 382 = .ok (.iconst 0, 1) := by decide +kernel
theorem dL_law_383 : decode cL_law 383 = .ok (.ireturn, 1) := by decide +kernel
theorem dL_law_384 : decode cL_law 384 = .ok (.aload_n 1, 1) := by decide +kernel
theorem dL_law_385 : decode cL_law 385 = .ok (.aload_n 0, 1) := by decide +kernel
theorem dL_law_386 : decode cL_law 386 = .ok (.iload_n 3, 1) := by decide +kernel
theorem dL_law_387 : decode cL_law 387 = .ok (.iconst 1, 1) := by decide +kernel
theorem dL_law_388 : decode cL_law 388 = .ok (.iadd, 1) := by decide +kernel
theorem dL_law_389 : decode cL_law 389 = .ok (.iaload, 1) := by decide +kernel
theorem dL_law_390 : decode cL_law 390 = .ok (.invokevirtual 56, 3) := by decide +kernel
theorem dL_law_393 : decode cL_law 393 = .ok (.aload_n 2, 1) := by decide +kernel
theorem dL_law_394 : decode cL_law 394 = .ok (.aload_n 0, 1) := by decide +kernel
theorem dL_law_395 : decode cL_law 395 = .ok (.iload_n 3, 1) := by decide +kernel
theorem dL_law_396 : decode cL_law 396 = .ok (.iconst 1, 1) := by decide +kernel
theorem dL_law_397 : decode cL_law 397 = .ok (.iadd, 1) := by decide +kernel
theorem dL_law_398 : decode cL_law 398 = .ok (.iaload, 1) := by decide +kernel
theorem dL_law_399 : decode cL_law 399 = .ok (.invokevirtual 59, 3) := by decide +kernel
theorem dL_law_402 : decode cL_law 402 = .ok (.if_icmp .eq 52, 3) := by decide +kernel
theorem dL_law_405 : decode cL_law 405 = .ok (.iconst 0, 1) := by decide +kernel
theorem dL_law_406 : decode cL_law 406 = .ok (.ireturn, 1) := by decide +kernel
theorem dL_law_407 : decode cL_law 407 = .ok (.aload_n 1, 1) := by decide +kernel
theorem dL_law_408 : decode cL_law 408 = .ok (.aload_n 0, 1) := by decide +kernel
theorem dL_law_409 : decode cL_law 409 = .ok (.iload_n 3, 1) := by decide +kernel
theorem dL_law_410 : decode cL_law 410 = .ok (.iconst 1, 1) := by decide +kernel
theorem dL_law_411 : decode cL_law 411 = .ok (.iadd, 1) := by decide +kernel
theorem dL_law_412 : decode cL_law 412 = .ok (.iaload, 1) := by decide +kernel
theorem dL_law_413 : decode cL_law 413 = .ok (.invokevirtual 60, 3) := by decide +kernel
theorem dL_law_416 : decode cL_law 416 = .ok (.aload_n 2, 1) := by decide +kernel
theorem dL_law_417 : decode cL_law 417 = .ok (.aload_n 0, 1) := by decide +kernel
theorem dL_law_418 : decode cL_law 418 = .ok (.iload_n 3, 1) := by decide +kernel
theorem dL_law_419 : decode cL_law 419 = .ok (.iconst 1, 1) := by decide +kernel
theorem dL_law_420 : decode cL_law 420 = .ok (.iadd, 1) := by decide +kernel
theorem dL_law_421 : decode cL_law 421 = .ok (.iaload, 1) := by decide +kernel
theorem dL_law_422 : decode cL_law 422 = .ok (.invokevirtual 64, 3) := by decide +kernel
theorem dL_law_425 : decode cL_law 425 = .ok (.lcmp, 1) := by decide +kernel
theorem dL_law_426 : decode cL_law 426 = .ok (.ifCond .eq 28, 3) := by decide +kernel
theorem dL_law_429 : decode cL_law 429 = .ok (.iconst 0, 1) := by decide +kernel
theorem dL_law_430 : decode cL_law 430 = .ok (.ireturn, 1) := by decide +kernel
theorem dL_law_431 : decode cL_law 431 = .ok (.aload_n 1, 1) := by decide +kernel
theorem dL_law_432 : decode cL_law 432 = .ok (.aload_n 0, 1) := by decide +kernel
theorem dL_law_433 : decode cL_law 433 = .ok (.iload_n 3, 1) := by decide +kernel
theorem dL_law_434 : decode cL_law 434 = .ok (.iconst 1, 1) := by decide +kernel
theorem dL_law_435 : decode cL_law 435 = .ok (.iadd, 1) := by decide +kernel
theorem dL_law_436 : decode cL_law 436 = .ok (.iaload, 1) := by decide +kernel
theorem dL_law_437 : decode cL_law 437 = .ok (.invokevirtual 65, 3) := by decide +kernel
theorem dL_law_440 : decode cL_law 440 = .ok (.aload_n 2, 1) := by decide +kernel
theorem dL_law_441 : decode cL_law 441 = .ok (.aload_n 0, 1) := by decide +kernel
theorem dL_law_442 : decode cL_law 442 = .ok (.iload_n 3, 1) := by decide +kernel
theorem dL_law_443 : decode cL_law 443 = .ok (.iconst 1, 1) := by decide +kernel
theorem dL_law_444 : decode cL_law 444 = .ok (.iadd, 1) := by decide +kernel
theorem dL_law_445 : decode cL_law 445 = .ok (.iaload, 1) := by decide +kernel
theorem dL_law_446 : decode cL_law 446 = .ok (.invokevirtual 68, 3) := by decide +kernel
theorem dL_law_449 : decode cL_law 449 = .ok (.if_icmp .eq 5, 3) := by decide +kernel
theorem dL_law_452 : decode cL_law 452 = .ok (.iconst 0, 1) := by decide +kernel
theorem dL_law_453 : decode cL_law 453 = .ok (.ireturn, 1) := by decide +kernel
theorem dL_law_454 : decode cL_law 454 = .ok (.iinc 3 5, 3) := by decide +kernel
theorem dL_law_457 : decode cL_law 457 = .ok (.goto (-439), 3) := by decide +kernel
theorem dL_law_460 : decode cL_law 460 = .ok (.iconst 1, 1) := by decide +kernel
theorem dL_law_461 : decode cL_law 461 = .ok (.ireturn, 1) := by decide +kernel
abbrev vwCl : List vw_C := [(RX0, TX0, 4), (RX2, TX2, 15), (RX3, TX3, 21)]
end
section
/-! BASE: contracts over a world that is a function of a state; how a method is entered, left, called. -/
abbrev bs_p {S : Type} (D : va_G) (cl : List vw_C) (tys : List (ClassId × FieldType)) (w : S → va_W) (sz : Nat) (s : S) (U : State) : Prop := U.heap.size = sz ∧ va_P D cl (w s) U.heap ∧ va_K D cl tys U ∧ va_D (fun _ => True) (w s)
abbrev bs_a {S : Type} (D : va_G) (cl : List vw_C) (tys : List (ClassId × FieldType)) (w : S → va_W) (A : Nat → Prop) (s : S) (t : State) : Prop := va_P D cl (w s) t.heap ∧ va_K D cl tys t ∧ va_D A (w s)
def MetV {S : Type} (l : Launch) (y : MethodName) (ws : List Cond) (rm : Room) (D : va_G) (cl : List vw_C) (tys : List (ClassId × FieldType)) (w : S → va_W) (As : List Value) (s s' : S) : Prop :=
  ∀ sz : Nat, Met l y ws rm (va_Pc As (bs_p D cl tys w sz s)) (va_Qv (fun u : S => u = s') (bs_a D cl tys w (va_A (w s) sz)) (va_A (w s) sz)) 0 0 (va_A (w s) sz)
def MetI {S : Type} (l : Launch) (y : MethodName) (ws : List Cond) (rm : Room) (D : va_G) (cl : List vw_C) (tys : List (ClassId × FieldType)) (w : S → va_W) (As : List Value) (s : S) (r : Int32) (s' : S) : Prop :=
  ∀ sz : Nat, Met l y ws rm (va_Pc As (bs_p D cl tys w sz s)) (va_Qi (fun (x : Int32) (u : S) => x = r ∧ u = s') (bs_a D cl tys w (va_A (w s) sz)) (va_A (w s) sz)) 0 0 (va_A (w s) sz)
def MetL {S : Type} (l : Launch) (y : MethodName) (ws : List Cond) (rm : Room) (D : va_G) (cl : List vw_C) (tys : List (ClassId × FieldType)) (w : S → va_W) (As : List Value) (s : S) (r : Int64) (s' : S) : Prop :=
  ∀ sz : Nat, Met l y ws rm (va_Pc As (bs_p D cl tys w sz s)) (va_Ql (fun (x : Int64) (u : S) => x = r ∧ u = s') (bs_a D cl tys w (va_A (w s) sz)) (va_A (w s) sz)) 0 0 (va_A (w s) sz)
def MetPi (l : Launch) (y : MethodName) (ws : List Cond) (rm : Room) (As : List Value) (r : Int32) : Prop := Met l y ws rm (va_Pc As (fun _ => True)) (vp_Si (fun x => x = r)) 0 0 (fun _ => False)
def MetPl (l : Launch) (y : MethodName) (ws : List Cond) (rm : Room) (As : List Value) (r : Int64) : Prop := Met l y ws rm (va_Pc As (fun _ => True)) (vp_Sl (fun x => x = r)) 0 0 (fun _ => False)
section BSE
variable {l : Launch} {y : MethodName} {ws ws' : List Cond} {rm : Room} {cc : ByteArray} {maxL : Nat} {ret : Option FieldType} {As : List Value}
theorem en_Pi {r : Int32} (hy : plainName y.cls = true) (hw : ws = Cond.code y cc maxL ret :: ws') (hlen : (lg_sl As).length ≤ maxL)
    (body : ∀ (p : Program) (e : Env) (st : State) (m : MethodId) (below : List Frame) (meth : Method) (c : Code) (ls : Array Slot), p.tables.exec = Jvm.exec → c.code = cc → meth.sig.returnType = ret → c.maxLocals = maxL → (∀ w ∈ ws, w.before As.toArray st = true) → st.vm.findClass y.cls = some m.cls → meth.locks = false → lv_has ls maxL (lv_args 0 As) →
      W p l e rm st m As.toArray below meth c st.heap [] 0 0 (MQ below (vp_Si (fun x => x = r)) As.toArray st 0 0 (fun _ => False)) (F0 m 0 ls [])) : MetPi l y ws rm As r := by
  refine Met.ofW (cc := cc) (maxL := maxL) (ret := ret) hy hw ?_
  intro p e s m args below meth c s₁ B hml hv
  obtain ⟨rfl, -⟩ := hv
  rw [lg_entry_eq]
  exact body p e s m below meth c _ B.exec B.bytes B.returns hml (atoms_spec (ws := ws) B.pre) (findClass_of_methodNamed B.named) B.notSynchronized (lv_entry As hlen)
theorem en_Pl {r : Int64} (hy : plainName y.cls = true) (hw : ws = Cond.code y cc maxL ret :: ws') (hlen : (lg_sl As).length ≤ maxL)
    (body : ∀ (p : Program) (e : Env) (st : State) (m : MethodId) (below : List Frame) (meth : Method) (c : Code) (ls : Array Slot), p.tables.exec = Jvm.exec → c.code = cc → meth.sig.returnType = ret → c.maxLocals = maxL → (∀ w ∈ ws, w.before As.toArray st = true) → st.vm.findClass y.cls = some m.cls → meth.locks = false → lv_has ls maxL (lv_args 0 As) →
      W p l e rm st m As.toArray below meth c st.heap [] 0 0 (MQ below (vp_Sl (fun x => x = r)) As.toArray st 0 0 (fun _ => False)) (F0 m 0 ls [])) : MetPl l y ws rm As r := by
  refine Met.ofW (cc := cc) (maxL := maxL) (ret := ret) hy hw ?_
  intro p e s m args below meth c s₁ B hml hv
  obtain ⟨rfl, -⟩ := hv
  rw [lg_entry_eq]
  exact body p e s m below meth c _ B.exec B.bytes B.returns hml (atoms_spec (ws := ws) B.pre) (findClass_of_methodNamed B.named) B.notSynchronized (lv_entry As hlen)
variable {S : Type} {D : va_G} {cl : List vw_C} {tys : List (ClassId × FieldType)} {w : S → va_W} {s s' : S}
theorem en_W {Qc : Nat → Array Value → State → Outcome → State → Prop} (hy : plainName y.cls = true) (hw : ws = Cond.code y cc maxL ret :: ws') (hlen : (lg_sl As).length ≤ maxL)
    (body : ∀ (p : Program) (e : Env) (st : State) (m : MethodId) (below : List Frame) (meth : Method) (c : Code) (ls : Array Slot), p.tables.exec = Jvm.exec → c.code = cc → meth.sig.returnType = ret → c.maxLocals = maxL → (∀ w ∈ ws, w.before As.toArray st = true) → st.vm.findClass y.cls = some m.cls → meth.locks = false →
      (∀ q : Nat, st.heap.size ≤ q → va_A (w s) st.heap.size q) → va_K D cl tys st → va_P D cl (w s) st.heap → va_D (va_A (w s) st.heap.size) (w s) → va_S (va_A (w s) st.heap.size) st.heap st.heap [] → lv_has ls maxL (lv_args 0 As) →
      W p l e rm st m As.toArray below meth c st.heap [] 0 0 (MQ below (Qc st.heap.size) As.toArray st 0 0 (va_A (w s) st.heap.size)) (F0 m 0 ls [])) (sz : Nat) : Met l y ws rm (va_Pc As (bs_p D cl tys w sz s)) (Qc sz) 0 0 (va_A (w s) sz) := by
  refine Met.ofW (cc := cc) (maxL := maxL) (ret := ret) hy hw ?_
  intro p e st m args below meth c s₁ B hml hv
  obtain ⟨rfl, hsz, hP, hK, hD⟩ := hv
  subst hsz
  rw [lg_entry_eq]
  exact body p e st m below meth c _ B.exec B.bytes B.returns hml (atoms_spec (ws := ws) B.pre) (findClass_of_methodNamed B.named) B.notSynchronized (fun q h => Or.inr h) hK hP hD.self va_S.rf (lv_entry As hlen)
end BSE
section BSR
variable {p : Program} {l : Launch} {e : Env} {R : Room} {s : State} {m : MethodId} {args : Array Value} {below : List Frame} {meth : Method} {c : Code} {cc : ByteArray} {pc : Nat} {ls : Array Slot} {H : Heap} {locs : List Loc}
theorem rt_Pi {v r : Int32} (hexec : p.tables.exec = Jvm.exec) (hb : c.code = cc) (hr : meth.sig.returnType = some .int) (hlk : meth.locks = false) (hv : v = r) (hdg : decode cc pc = .ok (.ireturn, 1)) :
    W p l e R s m args below meth c s.heap [] 0 0 (MQ below (vp_Si (fun x => x = r)) args s 0 0 (fun _ => False)) (F0 m pc ls [.int v]) :=
  W.iret (v := v) hexec hb hr (fun t ht _ => ⟨v, rfl, hv, ht⟩) (fun q h => by cases h) hdg hlk
theorem rt_Pz {v r : Int32} (hexec : p.tables.exec = Jvm.exec) (hb : c.code = cc) (hr : meth.sig.returnType = some .boolean) (hlk : meth.locks = false) (hn : narrow .boolean (.int v) = .int v) (hv : v = r) (hdg : decode cc pc = .ok (.ireturn, 1)) :
    W p l e R s m args below meth c s.heap [] 0 0 (MQ below (vp_Si (fun x => x = r)) args s 0 0 (fun _ => False)) (F0 m pc ls [.int v]) :=
  W.zret (v := v) hexec hb hr hn (fun t ht _ => ⟨v, rfl, hv, ht⟩) (fun q h => by cases h) hdg hlk
theorem rt_Pl {v r : Int64} (hexec : p.tables.exec = Jvm.exec) (hb : c.code = cc) (hr : meth.sig.returnType = some .long) (hlk : meth.locks = false) (hv : v = r) (hdg : decode cc pc = .ok (.lreturn, 1)) :
    W p l e R s m args below meth c s.heap [] 0 0 (MQ below (vp_Sl (fun x => x = r)) args s 0 0 (fun _ => False)) (F0 m pc ls [.long v]) :=
  W.lret (v := v) hexec hb hr (fun t ht _ => ⟨v, rfl, hv, ht⟩) (fun q h => by cases h) hdg hlk
variable {S : Type} {D : va_G} {cl : List vw_C} {tys : List (ClassId × FieldType)} {w : S → va_W} {s1 s2 : S} {A : Nat → Prop}
theorem rt_V (hexec : p.tables.exec = Jvm.exec) (hb : c.code = cc) (hr : meth.sig.returnType = none) (hlk : meth.locks = false) (hK : va_K D cl tys s) (hP : va_P D cl (w s1) H) (hD : va_D A (w s1)) (hS : va_S A s.heap H locs) (hv : s1 = s2) (hdg : decode cc pc = .ok (.return_, 1)) :
    W p l e R s m args below meth c H locs 0 0 (MQ below (va_Qv (fun u : S => u = s2) (bs_a D cl tys w A) A) args s 0 0 A) (F0 m pc ls []) :=
  W.vret hexec hb hr (fun t ht hW => ⟨⟨s1, rfl, hv, by rw [ht]; exact hP, va_K.moved hW.alike hK, hD⟩, hS.F ht⟩) hS.2.2 hdg hlk
theorem rt_I {v r : Int32} (hexec : p.tables.exec = Jvm.exec) (hb : c.code = cc) (hr : meth.sig.returnType = some .int) (hlk : meth.locks = false) (hK : va_K D cl tys s) (hP : va_P D cl (w s1) H) (hD : va_D A (w s1)) (hS : va_S A s.heap H locs) (hv : v = r ∧ s1 = s2) (hdg : decode cc pc = .ok (.ireturn, 1)) :
    W p l e R s m args below meth c H locs 0 0 (MQ below (va_Qi (fun (x : Int32) (u : S) => x = r ∧ u = s2) (bs_a D cl tys w A) A) args s 0 0 A) (F0 m pc ls [.int v]) :=
  W.iret (v := v) hexec hb hr (fun t ht hW => ⟨⟨v, s1, rfl, hv, by rw [ht]; exact hP, va_K.moved hW.alike hK, hD⟩, hS.F ht⟩) hS.2.2 hdg hlk
theorem rt_Z {v r : Int32} (hexec : p.tables.exec = Jvm.exec) (hb : c.code = cc) (hr : meth.sig.returnType = some .boolean) (hlk : meth.locks = false) (hK : va_K D cl tys s) (hP : va_P D cl (w s1) H) (hD : va_D A (w s1)) (hS : va_S A s.heap H locs) (hn : narrow .boolean (.int v) = .int v) (hv : v = r ∧ s1 = s2) (hdg : decode cc pc = .ok (.ireturn, 1)) :
    W p l e R s m args below meth c H locs 0 0 (MQ below (va_Qi (fun (x : Int32) (u : S) => x = r ∧ u = s2) (bs_a D cl tys w A) A) args s 0 0 A) (F0 m pc ls [.int v]) :=
  W.zret (v := v) hexec hb hr hn (fun t ht hW => ⟨⟨v, s1, rfl, hv, by rw [ht]; exact hP, va_K.moved hW.alike hK, hD⟩, hS.F ht⟩) hS.2.2 hdg hlk
theorem rt_L {v r : Int64} (hexec : p.tables.exec = Jvm.exec) (hb : c.code = cc) (hr : meth.sig.returnType = some .long) (hlk : meth.locks = false) (hK : va_K D cl tys s) (hP : va_P D cl (w s1) H) (hD : va_D A (w s1)) (hS : va_S A s.heap H locs) (hv : v = r ∧ s1 = s2) (hdg : decode cc pc = .ok (.lreturn, 1)) :
    W p l e R s m args below meth c H locs 0 0 (MQ below (va_Ql (fun (x : Int64) (u : S) => x = r ∧ u = s2) (bs_a D cl tys w A) A) args s 0 0 A) (F0 m pc ls [.long v]) :=
  W.lret (v := v) hexec hb hr (fun t ht hW => ⟨⟨v, s1, rfl, hv, by rw [ht]; exact hP, va_K.moved hW.alike hK, hD⟩, hS.F ht⟩) hS.2.2 hdg hlk
end BSR
section BSC
variable {p : Program} {l : Launch} {e : Env} {R : Room} {s : State} {m : MethodId} {args : Array Value} {below : List Frame} {meth : Method} {c : Code} {H : Heap} {locs : List Loc} {cells slots : Nat} {Q : State → Prop}
variable {y : MethodName} {bytes cc : ByteArray} {maxL nL n index pc : Nat} {ret : Option FieldType} {ws : List Cond} {rm : Room} {Ts : List Cond} {own C : String} {As rest st0 : List Value} {ls : Array Slot}
theorem cl_Pi {r : Int32} (hM : MetPi l y ws rm As r) (F : CallFix p m c cc nL s args Ts own) (cw : CallB R s args own index y bytes maxL ret ws rm 0 0 n ∧ (Cond.static y).before args s = true) (hn : As.length = n) (hls : ls.size = nL) (hst : st0 = As.reverse ++ rest) (hroom : (rest.map fun v => v.category).sum ≤ 8) (hc : cells ≤ R.cells) (hsl : slots ≤ R.slots) (hdg : decode cc pc = .ok (.invokestatic index, 3))
    (kk : W p l e R s m args below meth c H locs cells slots Q (F0 m (pc + 3) ls (.int r :: rest))) : W p l e R s m args below meth c H locs cells slots Q (F0 m pc ls st0) := by
  subst hst
  refine vp_callSi (va_Run.run (va_runS (As := As) (rest := rest) F hM cw ⟨fun a U g mk q => q, fun U _ _ => ⟨rfl, trivial⟩⟩ rfl hn hls rfl (lv_room hroom) hdg ⟨hc, hsl⟩)) (fun x ex => ?_)
  subst ex
  exact kk
theorem cl_Pl {r : Int64} (hM : MetPl l y ws rm As r) (F : CallFix p m c cc nL s args Ts own) (cw : CallB R s args own index y bytes maxL ret ws rm 0 0 n ∧ (Cond.static y).before args s = true) (hn : As.length = n) (hls : ls.size = nL) (hst : st0 = As.reverse ++ rest) (hroom : (rest.map fun v => v.category).sum ≤ 8) (hc : cells ≤ R.cells) (hsl : slots ≤ R.slots) (hdg : decode cc pc = .ok (.invokestatic index, 3))
    (kk : W p l e R s m args below meth c H locs cells slots Q (F0 m (pc + 3) ls (.long r :: rest))) : W p l e R s m args below meth c H locs cells slots Q (F0 m pc ls st0) := by
  subst hst
  refine vp_callSl (va_Run.run (va_runS (As := As) (rest := rest) F hM cw ⟨fun a U g mk q => q, fun U _ _ => ⟨rfl, trivial⟩⟩ rfl hn hls rfl (lv_room hroom) hdg ⟨hc, hsl⟩)) (fun x ex => ?_)
  subst ex
  exact kk
variable {S : Type} {D : va_G} {cl : List vw_C} {tys : List (ClassId × FieldType)} {w : S → va_W} {s1 s2 : S} {A : Nat → Prop}
theorem bs_blind {sz : Nat} : FrameBlind (va_Pc As (bs_p D cl tys w sz s1)) := fun a U g mk q => by
  obtain ⟨q0, q1, qP, qK, qD⟩ := q
  exact ⟨q0, q1, qP, va_K.moved (u := U) (U := U.calling g mk a) (Vm.Alike.refl U.vm) qK, qD⟩
theorem bs_free {H0 : Heap} (hD : va_D A (w s1)) (hS : va_S A H0 H locs) (hA : ∀ q : Nat, H0.size ≤ q → A q) : ∀ q, va_A (w s1) H.size q → A q := by
  intro q h
  rcases h with ⟨k, e, h⟩ | h
  · exact hD.2 k (q, e) h
  · exact hA q (Nat.le_trans hS.1 h)
/-- a virtual call whose callee's world is the caller's whole world -/
theorem cl_V {a0 ci : Nat} {fs : List Value} {q : vw_C} (hM : MetV l y ws rm D cl tys w (.ref a0 :: As) s1 s2) (F : CallFix p m c cc nL s args Ts own) (cw : CallW R s args own C index y bytes maxL ret ws rm 0 0 n) (hK : va_K D cl tys s) (hP : va_P D cl (w s1) H) (hD : va_D A (w s1)) (hS : va_S A s.heap H locs) (hA : ∀ q : Nat, s.heap.size ≤ q → A q) (he : (w s1)[0]? = some (a0, .inr (ci, fs))) (hc0 : cl[ci]? = some q) (hC : q.1 = C)
    (hn : As.length = n) (hls : ls.size = nL) (hst : st0 = As.reverse ++ .ref a0 :: rest) (hroom : (rest.map fun v => v.category).sum ≤ 8) (hc : cells ≤ R.cells) (hsl : slots ≤ R.slots) (hdg : decode cc pc = .ok (.invokevirtual index, 3))
    (kk : ∀ (H1 : Heap) (locs1 : List Loc), va_P D cl (w s2) H1 → va_D A (w s2) → va_S A s.heap H1 locs1 → W p l e R s m args below meth c H1 locs1 cells slots Q (F0 m (pc + 3) ls rest)) : W p l e R s m args below meth c H locs cells slots Q (F0 m pc ls st0) := by
  subst hst
  subst hC
  have hF := bs_free hD hS hA
  refine va_callv (va_runV (As := As) (rest := rest) F (hM H.size) cw ⟨bs_blind, va_recv hK hP hc0 he, fun U hU hW => ⟨rfl, by rw [hU], by rw [hU]; exact hP, va_K.moved hW.alike hK, hD.weaken (fun _ _ _ _ => trivial)⟩⟩ rfl hn hls rfl (lv_room hroom) hdg ⟨hc, hsl⟩) hS (fun q _ h => hF q h) hF (fun u t H1 locs1 ht hvm hu hB hz hk hS1 => ?_)
  obtain ⟨hP1, -, hD1⟩ := hB
  subst hu
  rw [ht] at hP1
  exact kk H1 locs1 hP1 (hD1.weaken (fun _ q _ h => hF q.1 h)) hS1
theorem cl_I {a0 ci : Nat} {fs : List Value} {q : vw_C} {r : Int32} (hM : MetI l y ws rm D cl tys w (.ref a0 :: As) s1 r s2) (F : CallFix p m c cc nL s args Ts own) (cw : CallW R s args own C index y bytes maxL ret ws rm 0 0 n) (hK : va_K D cl tys s) (hP : va_P D cl (w s1) H) (hD : va_D A (w s1)) (hS : va_S A s.heap H locs) (hA : ∀ q : Nat, s.heap.size ≤ q → A q) (he : (w s1)[0]? = some (a0, .inr (ci, fs))) (hc0 : cl[ci]? = some q) (hC : q.1 = C)
    (hn : As.length = n) (hls : ls.size = nL) (hst : st0 = As.reverse ++ .ref a0 :: rest) (hroom : (rest.map fun v => v.category).sum ≤ 8) (hc : cells ≤ R.cells) (hsl : slots ≤ R.slots) (hdg : decode cc pc = .ok (.invokevirtual index, 3))
    (kk : ∀ (H1 : Heap) (locs1 : List Loc), va_P D cl (w s2) H1 → va_D A (w s2) → va_S A s.heap H1 locs1 → W p l e R s m args below meth c H1 locs1 cells slots Q (F0 m (pc + 3) ls (.int r :: rest))) : W p l e R s m args below meth c H locs cells slots Q (F0 m pc ls st0) := by
  subst hst
  subst hC
  have hF := bs_free hD hS hA
  refine va_calli (va_runV (As := As) (rest := rest) F (hM H.size) cw ⟨bs_blind, va_recv hK hP hc0 he, fun U hU hW => ⟨rfl, by rw [hU], by rw [hU]; exact hP, va_K.moved hW.alike hK, hD.weaken (fun _ _ _ _ => trivial)⟩⟩ rfl hn hls rfl (lv_room hroom) hdg ⟨hc, hsl⟩) hS (fun q _ h => hF q h) hF (fun x u t H1 locs1 ht hvm hu hB hz hk hS1 => ?_)
  obtain ⟨hP1, -, hD1⟩ := hB
  obtain ⟨hx, hu⟩ := hu
  subst hx
  subst hu
  rw [ht] at hP1
  exact kk H1 locs1 hP1 (hD1.weaken (fun _ q _ h => hF q.1 h)) hS1
theorem cl_L {a0 ci : Nat} {fs : List Value} {q : vw_C} {r : Int64} (hM : MetL l y ws rm D cl tys w (.ref a0 :: As) s1 r s2) (F : CallFix p m c cc nL s args Ts own) (cw : CallW R s args own C index y bytes maxL ret ws rm 0 0 n) (hK : va_K D cl tys s) (hP : va_P D cl (w s1) H) (hD : va_D A (w s1)) (hS : va_S A s.heap H locs) (hA : ∀ q : Nat, s.heap.size ≤ q → A q) (he : (w s1)[0]? = some (a0, .inr (ci, fs))) (hc0 : cl[ci]? = some q) (hC : q.1 = C)
    (hn : As.length = n) (hls : ls.size = nL) (hst : st0 = As.reverse ++ .ref a0 :: rest) (hroom : (rest.map fun v => v.category).sum ≤ 8) (hc : cells ≤ R.cells) (hsl : slots ≤ R.slots) (hdg : decode cc pc = .ok (.invokevirtual index, 3))
    (kk : ∀ (H1 : Heap) (locs1 : List Loc), va_P D cl (w s2) H1 → va_D A (w s2) → va_S A s.heap H1 locs1 → W p l e R s m args below meth c H1 locs1 cells slots Q (F0 m (pc + 3) ls (.long r :: rest))) : W p l e R s m args below meth c H locs cells slots Q (F0 m pc ls st0) := by
  subst hst
  subst hC
  have hF := bs_free hD hS hA
  refine va_calll (va_runV (As := As) (rest := rest) F (hM H.size) cw ⟨bs_blind, va_recv hK hP hc0 he, fun U hU hW => ⟨rfl, by rw [hU], by rw [hU]; exact hP, va_K.moved hW.alike hK, hD.weaken (fun _ _ _ _ => trivial)⟩⟩ rfl hn hls rfl (lv_room hroom) hdg ⟨hc, hsl⟩) hS (fun q _ h => hF q h) hF (fun x u t H1 locs1 ht hvm hu hB hz hk hS1 => ?_)
  obtain ⟨hP1, -, hD1⟩ := hB
  obtain ⟨hx, hu⟩ := hu
  subst hx
  subst hu
  rw [ht] at hP1
  exact kk H1 locs1 hP1 (hD1.weaken (fun _ q _ h => hF q.1 h)) hS1
/-- a static call over the caller's world -/
theorem cl_SV (hM : MetV l y ws rm D cl tys w As s1 s2) (F : CallFix p m c cc nL s args Ts own) (cw : CallB R s args own index y bytes maxL ret ws rm 0 0 n ∧ (Cond.static y).before args s = true) (hK : va_K D cl tys s) (hP : va_P D cl (w s1) H) (hD : va_D A (w s1)) (hS : va_S A s.heap H locs) (hA : ∀ q : Nat, s.heap.size ≤ q → A q)
    (hn : As.length = n) (hls : ls.size = nL) (hst : st0 = As.reverse ++ rest) (hroom : (rest.map fun v => v.category).sum ≤ 8) (hc : cells ≤ R.cells) (hsl : slots ≤ R.slots) (hdg : decode cc pc = .ok (.invokestatic index, 3))
    (kk : ∀ (H1 : Heap) (locs1 : List Loc), va_P D cl (w s2) H1 → va_D A (w s2) → va_S A s.heap H1 locs1 → W p l e R s m args below meth c H1 locs1 cells slots Q (F0 m (pc + 3) ls rest)) : W p l e R s m args below meth c H locs cells slots Q (F0 m pc ls st0) := by
  subst hst
  have hF := bs_free hD hS hA
  refine va_callv (va_runS (As := As) (rest := rest) F (hM H.size) cw ⟨bs_blind, fun U hU hW => ⟨rfl, by rw [hU], by rw [hU]; exact hP, va_K.moved hW.alike hK, hD.weaken (fun _ _ _ _ => trivial)⟩⟩ rfl hn hls rfl (lv_room hroom) hdg ⟨hc, hsl⟩) hS (fun q _ h => hF q h) hF (fun u t H1 locs1 ht hvm hu hB hz hk hS1 => ?_)
  obtain ⟨hP1, -, hD1⟩ := hB
  subst hu
  rw [ht] at hP1
  exact kk H1 locs1 hP1 (hD1.weaken (fun _ q _ h => hF q.1 h)) hS1
end BSC
theorem pr_of {α β : Type} {F : α × β} {r : α} {s : β} (h : F = (r, s)) : r = F.1 ∧ s = F.2 := by
  subst h
  exact ⟨rfl, rfl⟩
theorem in_of {t M : Int32} {n : Nat} (h0 : ¬ t < 0) (h1 : ¬ M ≤ t) (hM : M = nI n) (hn : n < 2 ^ 31) : vp_in t n := by
  obtain ⟨j, hj, rfl⟩ := nI_of h0
  subst hM
  intro h
  rcases h with h | h
  · exact h0 h
  · rw [nI_clamp hj] at h
    exact h1 (nI_le h hj)
theorem sw_i {x c : Int32} {k : Int} (h : ¬ x = c) (hc : c.toInt = k) : x.toInt ≠ k := fun e => h (Int32.toInt_inj.mp (e.trans hc.symm))
end
