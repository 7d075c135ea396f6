section
-- ===== PART A: goes FIRST, ahead of the names: the tables' words, and 'selects' of the private methods out of them =====
/-- a private method of a class that the tables say can be made, by its rows of tables_1 -/
def lw_okq (q : MethodName × Nat) : Prop := (q.1.cls ≠ "java/lang/invoke/MethodHandle" ∧ q.1.cls ≠ "java/lang/invoke/VarHandle") ∧ Cond.instantiable q.1.cls q.2 ∈ tables_1 ∧ Cond.privateMethod q.1 ∈ tables_1 ∧ Cond.instanceMethod q.1 ∈ tables_1
theorem lw_p0 : lw_okq (⟨"RodChimes$Text", "add", "(I)Z"⟩, 7) := ⟨⟨by decide +kernel, by decide +kernel⟩, List.mem_of_getElem? (i := 18) (by decide +kernel), List.mem_of_getElem? (i := 199) (by decide +kernel), List.mem_of_getElem? (i := 200) (by decide +kernel)⟩
theorem lw_p1 : lw_okq (⟨"RodChimes$Text", "read", "()I"⟩, 7) := ⟨⟨by decide +kernel, by decide +kernel⟩, List.mem_of_getElem? (i := 18) (by decide +kernel), List.mem_of_getElem? (i := 211) (by decide +kernel), List.mem_of_getElem? (i := 212) (by decide +kernel)⟩
theorem lw_p2 : lw_okq (⟨"RodChimes$Rack", "empty", "()V"⟩, 5) := ⟨⟨by decide +kernel, by decide +kernel⟩, List.mem_of_getElem? (i := 24) (by decide +kernel), List.mem_of_getElem? (i := 215) (by decide +kernel), List.mem_of_getElem? (i := 216) (by decide +kernel)⟩
theorem lw_p3 : lw_okq (⟨"RodChimes$Text", "startsToken", "(I)Z"⟩, 7) := ⟨⟨by decide +kernel, by decide +kernel⟩, List.mem_of_getElem? (i := 18) (by decide +kernel), List.mem_of_getElem? (i := 219) (by decide +kernel), List.mem_of_getElem? (i := 220) (by decide +kernel)⟩
theorem lw_p4 : lw_okq (⟨"RodChimes$Text", "isDigit", "(I)Z"⟩, 7) := ⟨⟨by decide +kernel, by decide +kernel⟩, List.mem_of_getElem? (i := 18) (by decide +kernel), List.mem_of_getElem? (i := 223) (by decide +kernel), List.mem_of_getElem? (i := 224) (by decide +kernel)⟩
theorem lw_p5 : lw_okq (⟨"RodChimes$Text", "dueBehind", "(II)I"⟩, 7) := ⟨⟨by decide +kernel, by decide +kernel⟩, List.mem_of_getElem? (i := 18) (by decide +kernel), List.mem_of_getElem? (i := 227) (by decide +kernel), List.mem_of_getElem? (i := 228) (by decide +kernel)⟩
theorem lw_p6 : lw_okq (⟨"RodChimes$Text", "numberAt", "(I)I"⟩, 7) := ⟨⟨by decide +kernel, by decide +kernel⟩, List.mem_of_getElem? (i := 18) (by decide +kernel), List.mem_of_getElem? (i := 231) (by decide +kernel), List.mem_of_getElem? (i := 232) (by decide +kernel)⟩
theorem lw_p7 : lw_okq (⟨"RodChimes$Text", "dueBehindNumber", "(II)I"⟩, 7) := ⟨⟨by decide +kernel, by decide +kernel⟩, List.mem_of_getElem? (i := 18) (by decide +kernel), List.mem_of_getElem? (i := 235) (by decide +kernel), List.mem_of_getElem? (i := 236) (by decide +kernel)⟩
theorem lw_p8 : lw_okq (⟨"RodChimes$Rack", "add", "(III)Z"⟩, 5) := ⟨⟨by decide +kernel, by decide +kernel⟩, List.mem_of_getElem? (i := 24) (by decide +kernel), List.mem_of_getElem? (i := 240) (by decide +kernel), List.mem_of_getElem? (i := 241) (by decide +kernel)⟩
theorem lw_p9 : lw_okq (⟨"RodChimes$Rack", "take", "(LRodChimes$Rack;)V"⟩, 5) := ⟨⟨by decide +kernel, by decide +kernel⟩, List.mem_of_getElem? (i := 24) (by decide +kernel), List.mem_of_getElem? (i := 244) (by decide +kernel), List.mem_of_getElem? (i := 245) (by decide +kernel)⟩
theorem lw_p10 : lw_okq (⟨"RodChimes$Moment", "start", "()V"⟩, 6) := ⟨⟨by decide +kernel, by decide +kernel⟩, List.mem_of_getElem? (i := 85) (by decide +kernel), List.mem_of_getElem? (i := 248) (by decide +kernel), List.mem_of_getElem? (i := 249) (by decide +kernel)⟩
theorem lw_p11 : lw_okq (⟨"RodChimes$Rack", "has", "(I)Z"⟩, 5) := ⟨⟨by decide +kernel, by decide +kernel⟩, List.mem_of_getElem? (i := 24) (by decide +kernel), List.mem_of_getElem? (i := 256) (by decide +kernel), List.mem_of_getElem? (i := 257) (by decide +kernel)⟩
theorem lw_p12 : lw_okq (⟨"RodChimes", "isSide", "(I)Z"⟩, 15) := ⟨⟨by decide +kernel, by decide +kernel⟩, List.mem_of_getElem? (i := 10) (by decide +kernel), List.mem_of_getElem? (i := 264) (by decide +kernel), List.mem_of_getElem? (i := 265) (by decide +kernel)⟩
theorem lw_p13 : lw_okq (⟨"RodChimes$Moment", "rodAt", "(I)I"⟩, 6) := ⟨⟨by decide +kernel, by decide +kernel⟩, List.mem_of_getElem? (i := 85) (by decide +kernel), List.mem_of_getElem? (i := 268) (by decide +kernel), List.mem_of_getElem? (i := 269) (by decide +kernel)⟩
theorem lw_p14 : lw_okq (⟨"RodChimes$Moment", "ringing", "()I"⟩, 6) := ⟨⟨by decide +kernel, by decide +kernel⟩, List.mem_of_getElem? (i := 85) (by decide +kernel), List.mem_of_getElem? (i := 276) (by decide +kernel), List.mem_of_getElem? (i := 277) (by decide +kernel)⟩
theorem lw_p15 : lw_okq (⟨"RodChimes$Moment", "harsh", "()I"⟩, 6) := ⟨⟨by decide +kernel, by decide +kernel⟩, List.mem_of_getElem? (i := 85) (by decide +kernel), List.mem_of_getElem? (i := 280) (by decide +kernel), List.mem_of_getElem? (i := 281) (by decide +kernel)⟩
def lw_privs_1 : List (MethodName × Nat) := [(⟨"RodChimes$Text", "add", "(I)Z"⟩, 7), (⟨"RodChimes$Text", "read", "()I"⟩, 7), (⟨"RodChimes$Rack", "empty", "()V"⟩, 5), (⟨"RodChimes$Text", "startsToken", "(I)Z"⟩, 7), (⟨"RodChimes$Text", "isDigit", "(I)Z"⟩, 7), (⟨"RodChimes$Text", "dueBehind", "(II)I"⟩, 7), (⟨"RodChimes$Text", "numberAt", "(I)I"⟩, 7), (⟨"RodChimes$Text", "dueBehindNumber", "(II)I"⟩, 7), (⟨"RodChimes$Rack", "add", "(III)Z"⟩, 5), (⟨"RodChimes$Rack", "take", "(LRodChimes$Rack;)V"⟩, 5), (⟨"RodChimes$Moment", "start", "()V"⟩, 6), (⟨"RodChimes$Rack", "has", "(I)Z"⟩, 5), (⟨"RodChimes", "isSide", "(I)Z"⟩, 15), (⟨"RodChimes$Moment", "rodAt", "(I)I"⟩, 6), (⟨"RodChimes$Moment", "ringing", "()I"⟩, 6), (⟨"RodChimes$Moment", "harsh", "()I"⟩, 6)]
theorem lw_r1 : ∀ q ∈ lw_privs_1, lw_okq q := List.forall_mem_cons.mpr ⟨lw_p0, List.forall_mem_cons.mpr ⟨lw_p1, List.forall_mem_cons.mpr ⟨lw_p2, List.forall_mem_cons.mpr ⟨lw_p3, List.forall_mem_cons.mpr ⟨lw_p4, List.forall_mem_cons.mpr ⟨lw_p5, List.forall_mem_cons.mpr ⟨lw_p6, List.forall_mem_cons.mpr ⟨lw_p7, List.forall_mem_cons.mpr ⟨lw_p8, List.forall_mem_cons.mpr ⟨lw_p9, List.forall_mem_cons.mpr ⟨lw_p10, List.forall_mem_cons.mpr ⟨lw_p11, List.forall_mem_cons.mpr ⟨lw_p12, List.forall_mem_cons.mpr ⟨lw_p13, List.forall_mem_cons.mpr ⟨lw_p14, List.forall_mem_cons.mpr ⟨lw_p15, fun _ h => absurd h List.not_mem_nil⟩⟩⟩⟩⟩⟩⟩⟩⟩⟩⟩⟩⟩⟩⟩⟩
theorem lw_p16 : lw_okq (⟨"RodChimes$Rack", "clash", "(II)Z"⟩, 5) := ⟨⟨by decide +kernel, by decide +kernel⟩, List.mem_of_getElem? (i := 24) (by decide +kernel), List.mem_of_getElem? (i := 284) (by decide +kernel), List.mem_of_getElem? (i := 285) (by decide +kernel)⟩
theorem lw_p17 : lw_okq (⟨"RodChimes$Course", "calmsToStill", "(LRodChimes$Moment;)I"⟩, 5) := ⟨⟨by decide +kernel, by decide +kernel⟩, List.mem_of_getElem? (i := 117) (by decide +kernel), List.mem_of_getElem? (i := 288) (by decide +kernel), List.mem_of_getElem? (i := 289) (by decide +kernel)⟩
theorem lw_p18 : lw_okq (⟨"RodChimes$Course", "start", "(LRodChimes$Moment;)V"⟩, 5) := ⟨⟨by decide +kernel, by decide +kernel⟩, List.mem_of_getElem? (i := 117) (by decide +kernel), List.mem_of_getElem? (i := 292) (by decide +kernel), List.mem_of_getElem? (i := 293) (by decide +kernel)⟩
theorem lw_p19 : lw_okq (⟨"RodChimes$Moment", "copy", "(LRodChimes$Moment;)V"⟩, 6) := ⟨⟨by decide +kernel, by decide +kernel⟩, List.mem_of_getElem? (i := 85) (by decide +kernel), List.mem_of_getElem? (i := 296) (by decide +kernel), List.mem_of_getElem? (i := 297) (by decide +kernel)⟩
theorem lw_p20 : lw_okq (⟨"RodChimes$Moment", "isStill", "()Z"⟩, 6) := ⟨⟨by decide +kernel, by decide +kernel⟩, List.mem_of_getElem? (i := 85) (by decide +kernel), List.mem_of_getElem? (i := 300) (by decide +kernel), List.mem_of_getElem? (i := 301) (by decide +kernel)⟩
theorem lw_p21 : lw_okq (⟨"RodChimes$Moment", "passCalm", "()I"⟩, 6) := ⟨⟨by decide +kernel, by decide +kernel⟩, List.mem_of_getElem? (i := 85) (by decide +kernel), List.mem_of_getElem? (i := 305) (by decide +kernel), List.mem_of_getElem? (i := 306) (by decide +kernel)⟩
theorem lw_p22 : lw_okq (⟨"RodChimes$Moment", "fade", "()V"⟩, 6) := ⟨⟨by decide +kernel, by decide +kernel⟩, List.mem_of_getElem? (i := 85) (by decide +kernel), List.mem_of_getElem? (i := 309) (by decide +kernel), List.mem_of_getElem? (i := 310) (by decide +kernel)⟩
theorem lw_p23 : lw_okq (⟨"RodChimes$Moment", "swingOver", "()V"⟩, 6) := ⟨⟨by decide +kernel, by decide +kernel⟩, List.mem_of_getElem? (i := 85) (by decide +kernel), List.mem_of_getElem? (i := 316) (by decide +kernel), List.mem_of_getElem? (i := 317) (by decide +kernel)⟩
theorem lw_p24 : lw_okq (⟨"RodChimes$Moment", "strike", "()I"⟩, 6) := ⟨⟨by decide +kernel, by decide +kernel⟩, List.mem_of_getElem? (i := 85) (by decide +kernel), List.mem_of_getElem? (i := 320) (by decide +kernel), List.mem_of_getElem? (i := 321) (by decide +kernel)⟩
theorem lw_p25 : lw_okq (⟨"RodChimes", "remember", "()V"⟩, 15) := ⟨⟨by decide +kernel, by decide +kernel⟩, List.mem_of_getElem? (i := 10) (by decide +kernel), List.mem_of_getElem? (i := 333) (by decide +kernel), List.mem_of_getElem? (i := 334) (by decide +kernel)⟩
theorem lw_p26 : lw_okq (⟨"RodChimes$Moment", "passGust", "(II)I"⟩, 6) := ⟨⟨by decide +kernel, by decide +kernel⟩, List.mem_of_getElem? (i := 85) (by decide +kernel), List.mem_of_getElem? (i := 341) (by decide +kernel), List.mem_of_getElem? (i := 342) (by decide +kernel)⟩
theorem lw_p27 : lw_okq (⟨"RodChimes$Moment", "exchange", "(II)V"⟩, 6) := ⟨⟨by decide +kernel, by decide +kernel⟩, List.mem_of_getElem? (i := 85) (by decide +kernel), List.mem_of_getElem? (i := 354) (by decide +kernel), List.mem_of_getElem? (i := 355) (by decide +kernel)⟩
theorem lw_p28 : lw_okq (⟨"RodChimes$Course", "note", "(I)V"⟩, 5) := ⟨⟨by decide +kernel, by decide +kernel⟩, List.mem_of_getElem? (i := 117) (by decide +kernel), List.mem_of_getElem? (i := 374) (by decide +kernel), List.mem_of_getElem? (i := 375) (by decide +kernel)⟩
theorem lw_p29 : lw_okq (⟨"RodChimes$Course", "hasStruck", "(I)Z"⟩, 5) := ⟨⟨by decide +kernel, by decide +kernel⟩, List.mem_of_getElem? (i := 117) (by decide +kernel), List.mem_of_getElem? (i := 379) (by decide +kernel), List.mem_of_getElem? (i := 380) (by decide +kernel)⟩
theorem lw_p30 : lw_okq (⟨"RodChimes$Course", "passCalms", "(I)V"⟩, 5) := ⟨⟨by decide +kernel, by decide +kernel⟩, List.mem_of_getElem? (i := 117) (by decide +kernel), List.mem_of_getElem? (i := 385) (by decide +kernel), List.mem_of_getElem? (i := 386) (by decide +kernel)⟩
theorem lw_p31 : lw_okq (⟨"RodChimes", "follow", "(III)V"⟩, 15) := ⟨⟨by decide +kernel, by decide +kernel⟩, List.mem_of_getElem? (i := 10) (by decide +kernel), List.mem_of_getElem? (i := 394) (by decide +kernel), List.mem_of_getElem? (i := 395) (by decide +kernel)⟩
def lw_privs_2 : List (MethodName × Nat) := [(⟨"RodChimes$Rack", "clash", "(II)Z"⟩, 5), (⟨"RodChimes$Course", "calmsToStill", "(LRodChimes$Moment;)I"⟩, 5), (⟨"RodChimes$Course", "start", "(LRodChimes$Moment;)V"⟩, 5), (⟨"RodChimes$Moment", "copy", "(LRodChimes$Moment;)V"⟩, 6), (⟨"RodChimes$Moment", "isStill", "()Z"⟩, 6), (⟨"RodChimes$Moment", "passCalm", "()I"⟩, 6), (⟨"RodChimes$Moment", "fade", "()V"⟩, 6), (⟨"RodChimes$Moment", "swingOver", "()V"⟩, 6), (⟨"RodChimes$Moment", "strike", "()I"⟩, 6), (⟨"RodChimes", "remember", "()V"⟩, 15), (⟨"RodChimes$Moment", "passGust", "(II)I"⟩, 6), (⟨"RodChimes$Moment", "exchange", "(II)V"⟩, 6), (⟨"RodChimes$Course", "note", "(I)V"⟩, 5), (⟨"RodChimes$Course", "hasStruck", "(I)Z"⟩, 5), (⟨"RodChimes$Course", "passCalms", "(I)V"⟩, 5), (⟨"RodChimes", "follow", "(III)V"⟩, 15)]
theorem lw_r2 : ∀ q ∈ lw_privs_2, lw_okq q := List.forall_mem_cons.mpr ⟨lw_p16, List.forall_mem_cons.mpr ⟨lw_p17, List.forall_mem_cons.mpr ⟨lw_p18, List.forall_mem_cons.mpr ⟨lw_p19, List.forall_mem_cons.mpr ⟨lw_p20, List.forall_mem_cons.mpr ⟨lw_p21, List.forall_mem_cons.mpr ⟨lw_p22, List.forall_mem_cons.mpr ⟨lw_p23, List.forall_mem_cons.mpr ⟨lw_p24, List.forall_mem_cons.mpr ⟨lw_p25, List.forall_mem_cons.mpr ⟨lw_p26, List.forall_mem_cons.mpr ⟨lw_p27, List.forall_mem_cons.mpr ⟨lw_p28, List.forall_mem_cons.mpr ⟨lw_p29, List.forall_mem_cons.mpr ⟨lw_p30, List.forall_mem_cons.mpr ⟨lw_p31, fun _ h => absurd h List.not_mem_nil⟩⟩⟩⟩⟩⟩⟩⟩⟩⟩⟩⟩⟩⟩⟩⟩
theorem lw_p32 : lw_okq (⟨"RodChimes$Course", "passGust", "(II)V"⟩, 5) := ⟨⟨by decide +kernel, by decide +kernel⟩, List.mem_of_getElem? (i := 117) (by decide +kernel), List.mem_of_getElem? (i := 398) (by decide +kernel), List.mem_of_getElem? (i := 399) (by decide +kernel)⟩
theorem lw_p33 : lw_okq (⟨"RodChimes$Course", "struckCount", "()I"⟩, 5) := ⟨⟨by decide +kernel, by decide +kernel⟩, List.mem_of_getElem? (i := 117) (by decide +kernel), List.mem_of_getElem? (i := 403) (by decide +kernel), List.mem_of_getElem? (i := 404) (by decide +kernel)⟩
theorem lw_p34 : lw_okq (⟨"RodChimes$Course", "mildness", "()I"⟩, 5) := ⟨⟨by decide +kernel, by decide +kernel⟩, List.mem_of_getElem? (i := 117) (by decide +kernel), List.mem_of_getElem? (i := 413) (by decide +kernel), List.mem_of_getElem? (i := 414) (by decide +kernel)⟩
theorem lw_p35 : lw_okq (⟨"RodChimes", "followChanged", "(IIIII)V"⟩, 15) := ⟨⟨by decide +kernel, by decide +kernel⟩, List.mem_of_getElem? (i := 10) (by decide +kernel), List.mem_of_getElem? (i := 424) (by decide +kernel), List.mem_of_getElem? (i := 425) (by decide +kernel)⟩
theorem lw_p36 : lw_okq (⟨"RodChimes$Course", "hasStruckWithin", "(II)Z"⟩, 5) := ⟨⟨by decide +kernel, by decide +kernel⟩, List.mem_of_getElem? (i := 117) (by decide +kernel), List.mem_of_getElem? (i := 432) (by decide +kernel), List.mem_of_getElem? (i := 433) (by decide +kernel)⟩
theorem lw_p37 : lw_okq (⟨"RodChimes", "fitsHeard", "()Z"⟩, 15) := ⟨⟨by decide +kernel, by decide +kernel⟩, List.mem_of_getElem? (i := 10) (by decide +kernel), List.mem_of_getElem? (i := 451) (by decide +kernel), List.mem_of_getElem? (i := 452) (by decide +kernel)⟩
theorem lw_p38 : lw_okq (⟨"RodChimes", "countStrikes", "(I)I"⟩, 15) := ⟨⟨by decide +kernel, by decide +kernel⟩, List.mem_of_getElem? (i := 10) (by decide +kernel), List.mem_of_getElem? (i := 459) (by decide +kernel), List.mem_of_getElem? (i := 460) (by decide +kernel)⟩
theorem lw_p39 : lw_okq (⟨"RodChimes", "addStrikes", "(I)V"⟩, 15) := ⟨⟨by decide +kernel, by decide +kernel⟩, List.mem_of_getElem? (i := 10) (by decide +kernel), List.mem_of_getElem? (i := 463) (by decide +kernel), List.mem_of_getElem? (i := 464) (by decide +kernel)⟩
theorem lw_p40 : lw_okq (⟨"RodChimes", "rateChime", "(I)I"⟩, 15) := ⟨⟨by decide +kernel, by decide +kernel⟩, List.mem_of_getElem? (i := 10) (by decide +kernel), List.mem_of_getElem? (i := 473) (by decide +kernel), List.mem_of_getElem? (i := 474) (by decide +kernel)⟩
theorem lw_p41 : lw_okq (⟨"RodChimes", "rateGlass", "(I)I"⟩, 15) := ⟨⟨by decide +kernel, by decide +kernel⟩, List.mem_of_getElem? (i := 10) (by decide +kernel), List.mem_of_getElem? (i := 477) (by decide +kernel), List.mem_of_getElem? (i := 478) (by decide +kernel)⟩
theorem lw_p42 : lw_okq (⟨"RodChimes", "rateShell", "(I)I"⟩, 15) := ⟨⟨by decide +kernel, by decide +kernel⟩, List.mem_of_getElem? (i := 10) (by decide +kernel), List.mem_of_getElem? (i := 482) (by decide +kernel), List.mem_of_getElem? (i := 483) (by decide +kernel)⟩
theorem lw_p43 : lw_okq (⟨"RodChimes", "rateBell", "(I)I"⟩, 15) := ⟨⟨by decide +kernel, by decide +kernel⟩, List.mem_of_getElem? (i := 10) (by decide +kernel), List.mem_of_getElem? (i := 487) (by decide +kernel), List.mem_of_getElem? (i := 488) (by decide +kernel)⟩
theorem lw_p44 : lw_okq (⟨"RodChimes", "rateBone", "(I)I"⟩, 15) := ⟨⟨by decide +kernel, by decide +kernel⟩, List.mem_of_getElem? (i := 10) (by decide +kernel), List.mem_of_getElem? (i := 492) (by decide +kernel), List.mem_of_getElem? (i := 493) (by decide +kernel)⟩
theorem lw_p45 : lw_okq (⟨"RodChimes", "rateBrass", "(I)I"⟩, 15) := ⟨⟨by decide +kernel, by decide +kernel⟩, List.mem_of_getElem? (i := 10) (by decide +kernel), List.mem_of_getElem? (i := 497) (by decide +kernel), List.mem_of_getElem? (i := 498) (by decide +kernel)⟩
theorem lw_p46 : lw_okq (⟨"RodChimesModel", "advances", "()V"⟩, 30) := ⟨⟨by decide +kernel, by decide +kernel⟩, List.mem_of_getElem? (i := 518) (by decide +kernel), List.mem_of_getElem? (i := 630) (by decide +kernel), List.mem_of_getElem? (i := 631) (by decide +kernel)⟩
theorem lw_p47 : lw_okq (⟨"RodChimesModel", "letterAt", "(I)I"⟩, 30) := ⟨⟨by decide +kernel, by decide +kernel⟩, List.mem_of_getElem? (i := 518) (by decide +kernel), List.mem_of_getElem? (i := 634) (by decide +kernel), List.mem_of_getElem? (i := 635) (by decide +kernel)⟩
def lw_privs_3 : List (MethodName × Nat) := [(⟨"RodChimes$Course", "passGust", "(II)V"⟩, 5), (⟨"RodChimes$Course", "struckCount", "()I"⟩, 5), (⟨"RodChimes$Course", "mildness", "()I"⟩, 5), (⟨"RodChimes", "followChanged", "(IIIII)V"⟩, 15), (⟨"RodChimes$Course", "hasStruckWithin", "(II)Z"⟩, 5), (⟨"RodChimes", "fitsHeard", "()Z"⟩, 15), (⟨"RodChimes", "countStrikes", "(I)I"⟩, 15), (⟨"RodChimes", "addStrikes", "(I)V"⟩, 15), (⟨"RodChimes", "rateChime", "(I)I"⟩, 15), (⟨"RodChimes", "rateGlass", "(I)I"⟩, 15), (⟨"RodChimes", "rateShell", "(I)I"⟩, 15), (⟨"RodChimes", "rateBell", "(I)I"⟩, 15), (⟨"RodChimes", "rateBone", "(I)I"⟩, 15), (⟨"RodChimes", "rateBrass", "(I)I"⟩, 15), (⟨"RodChimesModel", "advances", "()V"⟩, 30), (⟨"RodChimesModel", "letterAt", "(I)I"⟩, 30)]
theorem lw_r3 : ∀ q ∈ lw_privs_3, lw_okq q := List.forall_mem_cons.mpr ⟨lw_p32, List.forall_mem_cons.mpr ⟨lw_p33, List.forall_mem_cons.mpr ⟨lw_p34, List.forall_mem_cons.mpr ⟨lw_p35, List.forall_mem_cons.mpr ⟨lw_p36, List.forall_mem_cons.mpr ⟨lw_p37, List.forall_mem_cons.mpr ⟨lw_p38, List.forall_mem_cons.mpr ⟨lw_p39, List.forall_mem_cons.mpr ⟨lw_p40, List.forall_mem_cons.mpr ⟨lw_p41, List.forall_mem_cons.mpr ⟨lw_p42, List.forall_mem_cons.mpr ⟨lw_p43, List.forall_mem_cons.mpr ⟨lw_p44, List.forall_mem_cons.mpr ⟨lw_p45, List.forall_mem_cons.mpr ⟨lw_p46, List.forall_mem_cons.mpr ⟨lw_p47, fun _ h => absurd h List.not_mem_nil⟩⟩⟩⟩⟩⟩⟩⟩⟩⟩⟩⟩⟩⟩⟩⟩
theorem lw_p48 : lw_okq (⟨"RodChimesModel", "isWell", "()Z"⟩, 30) := ⟨⟨by decide +kernel, by decide +kernel⟩, List.mem_of_getElem? (i := 518) (by decide +kernel), List.mem_of_getElem? (i := 638) (by decide +kernel), List.mem_of_getElem? (i := 639) (by decide +kernel)⟩
theorem lw_p49 : lw_okq (⟨"RodChimesModel", "takes", "(Z)I"⟩, 30) := ⟨⟨by decide +kernel, by decide +kernel⟩, List.mem_of_getElem? (i := 518) (by decide +kernel), List.mem_of_getElem? (i := 642) (by decide +kernel), List.mem_of_getElem? (i := 643) (by decide +kernel)⟩
theorem lw_p50 : lw_okq (⟨"RodChimesModel", "readsItem", "(I)V"⟩, 30) := ⟨⟨by decide +kernel, by decide +kernel⟩, List.mem_of_getElem? (i := 518) (by decide +kernel), List.mem_of_getElem? (i := 646) (by decide +kernel), List.mem_of_getElem? (i := 647) (by decide +kernel)⟩
theorem lw_p51 : lw_okq (⟨"RodChimesModel", "number", "(II)I"⟩, 30) := ⟨⟨by decide +kernel, by decide +kernel⟩, List.mem_of_getElem? (i := 518) (by decide +kernel), List.mem_of_getElem? (i := 650) (by decide +kernel), List.mem_of_getElem? (i := 651) (by decide +kernel)⟩
theorem lw_p52 : lw_okq (⟨"RodChimesModel", "settles", "()V"⟩, 30) := ⟨⟨by decide +kernel, by decide +kernel⟩, List.mem_of_getElem? (i := 518) (by decide +kernel), List.mem_of_getElem? (i := 654) (by decide +kernel), List.mem_of_getElem? (i := 655) (by decide +kernel)⟩
theorem lw_p53 : lw_okq (⟨"RodChimesModel", "isRod", "(I)Z"⟩, 30) := ⟨⟨by decide +kernel, by decide +kernel⟩, List.mem_of_getElem? (i := 518) (by decide +kernel), List.mem_of_getElem? (i := 662) (by decide +kernel), List.mem_of_getElem? (i := 663) (by decide +kernel)⟩
theorem lw_p54 : lw_okq (⟨"RodChimesModel", "rodAt", "([II)I"⟩, 30) := ⟨⟨by decide +kernel, by decide +kernel⟩, List.mem_of_getElem? (i := 518) (by decide +kernel), List.mem_of_getElem? (i := 670) (by decide +kernel), List.mem_of_getElem? (i := 671) (by decide +kernel)⟩
theorem lw_p55 : lw_okq (⟨"RodChimesModel", "ringing", "([I)I"⟩, 30) := ⟨⟨by decide +kernel, by decide +kernel⟩, List.mem_of_getElem? (i := 518) (by decide +kernel), List.mem_of_getElem? (i := 678) (by decide +kernel), List.mem_of_getElem? (i := 679) (by decide +kernel)⟩
theorem lw_p56 : lw_okq (⟨"RodChimesModel", "harshOf", "([I)I"⟩, 30) := ⟨⟨by decide +kernel, by decide +kernel⟩, List.mem_of_getElem? (i := 518) (by decide +kernel), List.mem_of_getElem? (i := 682) (by decide +kernel), List.mem_of_getElem? (i := 683) (by decide +kernel)⟩
theorem lw_p57 : lw_okq (⟨"RodChimesModel", "isHarsh", "(II)Z"⟩, 30) := ⟨⟨by decide +kernel, by decide +kernel⟩, List.mem_of_getElem? (i := 518) (by decide +kernel), List.mem_of_getElem? (i := 686) (by decide +kernel), List.mem_of_getElem? (i := 687) (by decide +kernel)⟩
theorem lw_p58 : lw_okq (⟨"RodChimesModel", "stillIn", "()I"⟩, 30) := ⟨⟨by decide +kernel, by decide +kernel⟩, List.mem_of_getElem? (i := 518) (by decide +kernel), List.mem_of_getElem? (i := 690) (by decide +kernel), List.mem_of_getElem? (i := 691) (by decide +kernel)⟩
theorem lw_p59 : lw_okq (⟨"RodChimesModel", "asNow", "()V"⟩, 30) := ⟨⟨by decide +kernel, by decide +kernel⟩, List.mem_of_getElem? (i := 518) (by decide +kernel), List.mem_of_getElem? (i := 694) (by decide +kernel), List.mem_of_getElem? (i := 695) (by decide +kernel)⟩
theorem lw_p60 : lw_okq (⟨"RodChimesModel", "calmBeats", "(I)V"⟩, 30) := ⟨⟨by decide +kernel, by decide +kernel⟩, List.mem_of_getElem? (i := 518) (by decide +kernel), List.mem_of_getElem? (i := 698) (by decide +kernel), List.mem_of_getElem? (i := 699) (by decide +kernel)⟩
theorem lw_p61 : lw_okq (⟨"RodChimesModel", "beats", "([III)I"⟩, 30) := ⟨⟨by decide +kernel, by decide +kernel⟩, List.mem_of_getElem? (i := 518) (by decide +kernel), List.mem_of_getElem? (i := 702) (by decide +kernel), List.mem_of_getElem? (i := 703) (by decide +kernel)⟩
theorem lw_p62 : lw_okq (⟨"RodChimesModel", "heardNow", "(I)V"⟩, 30) := ⟨⟨by decide +kernel, by decide +kernel⟩, List.mem_of_getElem? (i := 518) (by decide +kernel), List.mem_of_getElem? (i := 706) (by decide +kernel), List.mem_of_getElem? (i := 707) (by decide +kernel)⟩
theorem lw_p63 : lw_okq (⟨"RodChimesModel", "notes", "()V"⟩, 30) := ⟨⟨by decide +kernel, by decide +kernel⟩, List.mem_of_getElem? (i := 518) (by decide +kernel), List.mem_of_getElem? (i := 714) (by decide +kernel), List.mem_of_getElem? (i := 715) (by decide +kernel)⟩
def lw_privs_4 : List (MethodName × Nat) := [(⟨"RodChimesModel", "isWell", "()Z"⟩, 30), (⟨"RodChimesModel", "takes", "(Z)I"⟩, 30), (⟨"RodChimesModel", "readsItem", "(I)V"⟩, 30), (⟨"RodChimesModel", "number", "(II)I"⟩, 30), (⟨"RodChimesModel", "settles", "()V"⟩, 30), (⟨"RodChimesModel", "isRod", "(I)Z"⟩, 30), (⟨"RodChimesModel", "rodAt", "([II)I"⟩, 30), (⟨"RodChimesModel", "ringing", "([I)I"⟩, 30), (⟨"RodChimesModel", "harshOf", "([I)I"⟩, 30), (⟨"RodChimesModel", "isHarsh", "(II)Z"⟩, 30), (⟨"RodChimesModel", "stillIn", "()I"⟩, 30), (⟨"RodChimesModel", "asNow", "()V"⟩, 30), (⟨"RodChimesModel", "calmBeats", "(I)V"⟩, 30), (⟨"RodChimesModel", "beats", "([III)I"⟩, 30), (⟨"RodChimesModel", "heardNow", "(I)V"⟩, 30), (⟨"RodChimesModel", "notes", "()V"⟩, 30)]
theorem lw_r4 : ∀ q ∈ lw_privs_4, lw_okq q := List.forall_mem_cons.mpr ⟨lw_p48, List.forall_mem_cons.mpr ⟨lw_p49, List.forall_mem_cons.mpr ⟨lw_p50, List.forall_mem_cons.mpr ⟨lw_p51, List.forall_mem_cons.mpr ⟨lw_p52, List.forall_mem_cons.mpr ⟨lw_p53, List.forall_mem_cons.mpr ⟨lw_p54, List.forall_mem_cons.mpr ⟨lw_p55, List.forall_mem_cons.mpr ⟨lw_p56, List.forall_mem_cons.mpr ⟨lw_p57, List.forall_mem_cons.mpr ⟨lw_p58, List.forall_mem_cons.mpr ⟨lw_p59, List.forall_mem_cons.mpr ⟨lw_p60, List.forall_mem_cons.mpr ⟨lw_p61, List.forall_mem_cons.mpr ⟨lw_p62, List.forall_mem_cons.mpr ⟨lw_p63, fun _ h => absurd h List.not_mem_nil⟩⟩⟩⟩⟩⟩⟩⟩⟩⟩⟩⟩⟩⟩⟩⟩
theorem lw_p64 : lw_okq (⟨"RodChimesModel", "trades", "([III)V"⟩, 30) := ⟨⟨by decide +kernel, by decide +kernel⟩, List.mem_of_getElem? (i := 518) (by decide +kernel), List.mem_of_getElem? (i := 726) (by decide +kernel), List.mem_of_getElem? (i := 727) (by decide +kernel)⟩
theorem lw_p65 : lw_okq (⟨"RodChimesModel", "gustAndCalm", "(III)V"⟩, 30) := ⟨⟨by decide +kernel, by decide +kernel⟩, List.mem_of_getElem? (i := 518) (by decide +kernel), List.mem_of_getElem? (i := 746) (by decide +kernel), List.mem_of_getElem? (i := 747) (by decide +kernel)⟩
theorem lw_p66 : lw_okq (⟨"RodChimesModel", "isAsHeard", "(I)Z"⟩, 30) := ⟨⟨by decide +kernel, by decide +kernel⟩, List.mem_of_getElem? (i := 518) (by decide +kernel), List.mem_of_getElem? (i := 779) (by decide +kernel), List.mem_of_getElem? (i := 780) (by decide +kernel)⟩
def lw_privs_5 : List (MethodName × Nat) := [(⟨"RodChimesModel", "trades", "([III)V"⟩, 30), (⟨"RodChimesModel", "gustAndCalm", "(III)V"⟩, 30), (⟨"RodChimesModel", "isAsHeard", "(I)Z"⟩, 30)]
theorem lw_r5 : ∀ q ∈ lw_privs_5, lw_okq q := List.forall_mem_cons.mpr ⟨lw_p64, List.forall_mem_cons.mpr ⟨lw_p65, List.forall_mem_cons.mpr ⟨lw_p66, fun _ h => absurd h List.not_mem_nil⟩⟩⟩
def lw_privs : List (MethodName × Nat) := lw_privs_1 ++ (lw_privs_2 ++ (lw_privs_3 ++ (lw_privs_4 ++ (lw_privs_5))))
def lw_tbl : List Cond := k2_sels lw_privs ++ tables_1
theorem lw_privs_ok : ∀ q ∈ lw_privs, lw_okq q := by
  show ∀ q ∈ lw_privs_1 ++ (lw_privs_2 ++ (lw_privs_3 ++ (lw_privs_4 ++ (lw_privs_5)))), lw_okq q
  exact List.forall_mem_append.mpr ⟨lw_r1, List.forall_mem_append.mpr ⟨lw_r2, List.forall_mem_append.mpr ⟨lw_r3, List.forall_mem_append.mpr ⟨lw_r4, lw_r5⟩⟩⟩⟩
end
section
def RX0 : String := "RodChimes$Course"
def TX0 : u_T := fun k => match k with
  | 0 => ("RodChimes$Course", "moment", "LRodChimes$Moment;", true)
  | 1 => ("RodChimes$Course", "calmsPassed", "I", false)
  | 2 => ("RodChimes$Course", "struck", "I", false)
  | 3 => ("RodChimes$Course", "harshest", "I", false)
  | _ => ("RodChimes$Course", "firstStruck", "[I", true)
def tyX0 : Nat → FieldType := fun k => match k with
  | 0 => .object "RodChimes$Moment"
  | 1 => .int
  | 2 => .int
  | 3 => .int
  | _ => .array .int
theorem nmX0 : ∀ a, a < 5 → ∀ b, b < 5 → a ≠ b → (TX0 a).2.1 ≠ (TX0 b).2.1 := by decide +kernel
theorem tyX0_ok : ∀ k, k < 5 → parseFieldDescriptor (TX0 k).2.2.1 = some (tyX0 k) := by decide +kernel
abbrev cX0_init : ByteArray := prog_2_method_1_code
def yX0_init : MethodName := ⟨RX0, "<init>", "(LRodChimes$Rack;)V"⟩
abbrev cX0_start : ByteArray := prog_2_method_2_code
def yX0_start : MethodName := ⟨RX0, "start", "(LRodChimes$Moment;)V"⟩
abbrev cX0_passGust : ByteArray := prog_2_method_3_code
def yX0_passGust : MethodName := ⟨RX0, "passGust", "(II)V"⟩
abbrev cX0_passCalms : ByteArray := prog_2_method_4_code
def yX0_passCalms : MethodName := ⟨RX0, "passCalms", "(I)V"⟩
abbrev cX0_note : ByteArray := prog_2_method_5_code
def yX0_note : MethodName := ⟨RX0, "note", "(I)V"⟩
abbrev cX0_hasStruck : ByteArray := prog_2_method_6_code
def yX0_hasStruck : MethodName := ⟨RX0, "hasStruck", "(I)Z"⟩
abbrev cX0_hasStruckWithin : ByteArray := prog_2_method_7_code
def yX0_hasStruckWithin : MethodName := ⟨RX0, "hasStruckWithin", "(II)Z"⟩
abbrev cX0_struckCount : ByteArray := prog_2_method_8_code
def yX0_struckCount : MethodName := ⟨RX0, "struckCount", "()I"⟩
abbrev cX0_mildness : ByteArray := prog_2_method_9_code
def yX0_mildness : MethodName := ⟨RX0, "mildness", "()I"⟩
abbrev cX0_calmsToStill : ByteArray := prog_2_method_10_code
def yX0_calmsToStill : MethodName := ⟨RX0, "calmsToStill", "(LRodChimes$Moment;)I"⟩
def RX1 : String := "RodChimes$Moment"
def TX1 : u_T := fun k => match k with
  | 0 => ("RodChimes$Moment", "rack", "LRodChimes$Rack;", true)
  | 1 => ("RodChimes$Moment", "beat", "I", false)
  | 2 => ("RodChimes$Moment", "towards", "I", false)
  | 3 => ("RodChimes$Moment", "far", "I", false)
  | 4 => ("RodChimes$Moment", "sideOf", "[I", true)
  | _ => ("RodChimes$Moment", "rings", "[I", true)
def tyX1 : Nat → FieldType := fun k => match k with
  | 0 => .object "RodChimes$Rack"
  | 1 => .int
  | 2 => .int
  | 3 => .int
  | 4 => .array .int
  | _ => .array .int
theorem nmX1 : ∀ a, a < 6 → ∀ b, b < 6 → a ≠ b → (TX1 a).2.1 ≠ (TX1 b).2.1 := by decide +kernel
theorem tyX1_ok : ∀ k, k < 6 → parseFieldDescriptor (TX1 k).2.2.1 = some (tyX1 k) := by decide +kernel
abbrev cX1_init : ByteArray := prog_3_method_1_code
def yX1_init : MethodName := ⟨RX1, "<init>", "(LRodChimes$Rack;)V"⟩
abbrev cX1_start : ByteArray := prog_3_method_2_code
def yX1_start : MethodName := ⟨RX1, "start", "()V"⟩
abbrev cX1_copy : ByteArray := prog_3_method_3_code
def yX1_copy : MethodName := ⟨RX1, "copy", "(LRodChimes$Moment;)V"⟩
abbrev cX1_passGust : ByteArray := prog_3_method_4_code
def yX1_passGust : MethodName := ⟨RX1, "passGust", "(II)I"⟩
abbrev cX1_passCalm : ByteArray := prog_3_method_5_code
def yX1_passCalm : MethodName := ⟨RX1, "passCalm", "()I"⟩
abbrev cX1_fade : ByteArray := prog_3_method_6_code
def yX1_fade : MethodName := ⟨RX1, "fade", "()V"⟩
abbrev cX1_swingOver : ByteArray := prog_3_method_7_code
def yX1_swingOver : MethodName := ⟨RX1, "swingOver", "()V"⟩
abbrev cX1_strike : ByteArray := prog_3_method_8_code
def yX1_strike : MethodName := ⟨RX1, "strike", "()I"⟩
abbrev cX1_rodAt : ByteArray := prog_3_method_9_code
def yX1_rodAt : MethodName := ⟨RX1, "rodAt", "(I)I"⟩
abbrev cX1_exchange : ByteArray := prog_3_method_10_code
def yX1_exchange : MethodName := ⟨RX1, "exchange", "(II)V"⟩
abbrev cX1_ringing : ByteArray := prog_3_method_11_code
def yX1_ringing : MethodName := ⟨RX1, "ringing", "()I"⟩
abbrev cX1_harsh : ByteArray := prog_3_method_12_code
def yX1_harsh : MethodName := ⟨RX1, "harsh", "()I"⟩
abbrev cX1_isStill : ByteArray := prog_3_method_13_code
def yX1_isStill : MethodName := ⟨RX1, "isStill", "()Z"⟩
def RX2 : String := "RodChimes$Rack"
def TX2 : u_T := fun k => match k with
  | 0 => ("RodChimes$Rack", "rods", "I", false)
  | 1 => ("RodChimes$Rack", "damp", "I", false)
  | 2 => ("RodChimes$Rack", "tone", "[I", true)
  | 3 => ("RodChimes$Rack", "gap", "[I", true)
  | _ => ("RodChimes$Rack", "ring", "[I", true)
def tyX2 : Nat → FieldType := fun k => match k with
  | 0 => .int
  | 1 => .int
  | 2 => .array .int
  | 3 => .array .int
  | _ => .array .int
theorem nmX2 : ∀ a, a < 5 → ∀ b, b < 5 → a ≠ b → (TX2 a).2.1 ≠ (TX2 b).2.1 := by decide +kernel
theorem tyX2_ok : ∀ k, k < 5 → parseFieldDescriptor (TX2 k).2.2.1 = some (tyX2 k) := by decide +kernel
abbrev cX2_init : ByteArray := prog_4_method_1_code
def yX2_init : MethodName := ⟨RX2, "<init>", "()V"⟩
abbrev cX2_has : ByteArray := prog_4_method_2_code
def yX2_has : MethodName := ⟨RX2, "has", "(I)Z"⟩
abbrev cX2_empty : ByteArray := prog_4_method_3_code
def yX2_empty : MethodName := ⟨RX2, "empty", "()V"⟩
abbrev cX2_add : ByteArray := prog_4_method_4_code
def yX2_add : MethodName := ⟨RX2, "add", "(III)Z"⟩
abbrev cX2_take : ByteArray := prog_4_method_5_code
def yX2_take : MethodName := ⟨RX2, "take", "(LRodChimes$Rack;)V"⟩
abbrev cX2_clash : ByteArray := prog_4_method_6_code
def yX2_clash : MethodName := ⟨RX2, "clash", "(II)Z"⟩
def RX3 : String := "RodChimes$Text"
def TX3 : u_T := fun k => match k with
  | 0 => ("RodChimes$Text", "letters", "[I", true)
  | 1 => ("RodChimes$Text", "length", "I", false)
  | 2 => ("RodChimes$Text", "draft", "LRodChimes$Rack;", true)
  | 3 => ("RodChimes$Text", "items", "I", false)
  | 4 => ("RodChimes$Text", "dampTold", "Z", false)
  | 5 => ("RodChimes$Text", "toneTold", "I", false)
  | _ => ("RodChimes$Text", "gapTold", "I", false)
def tyX3 : Nat → FieldType := fun k => match k with
  | 0 => .array .int
  | 1 => .int
  | 2 => .object "RodChimes$Rack"
  | 3 => .int
  | 4 => .boolean
  | 5 => .int
  | _ => .int
theorem nmX3 : ∀ a, a < 7 → ∀ b, b < 7 → a ≠ b → (TX3 a).2.1 ≠ (TX3 b).2.1 := by decide +kernel
theorem tyX3_ok : ∀ k, k < 7 → parseFieldDescriptor (TX3 k).2.2.1 = some (tyX3 k) := by decide +kernel
abbrev cX3_init : ByteArray := prog_5_method_1_code
def yX3_init : MethodName := ⟨RX3, "<init>", "()V"⟩
abbrev cX3_add : ByteArray := prog_5_method_2_code
def yX3_add : MethodName := ⟨RX3, "add", "(I)Z"⟩
abbrev cX3_read : ByteArray := prog_5_method_3_code
def yX3_read : MethodName := ⟨RX3, "read", "()I"⟩
abbrev cX3_startsToken : ByteArray := prog_5_method_4_code
def yX3_startsToken : MethodName := ⟨RX3, "startsToken", "(I)Z"⟩
abbrev cX3_isDigit : ByteArray := prog_5_method_5_code
def yX3_isDigit : MethodName := ⟨RX3, "isDigit", "(I)Z"⟩
abbrev cX3_dueBehind : ByteArray := prog_5_method_6_code
def yX3_dueBehind : MethodName := ⟨RX3, "dueBehind", "(II)I"⟩
abbrev cX3_dueBehindNumber : ByteArray := prog_5_method_7_code
def yX3_dueBehindNumber : MethodName := ⟨RX3, "dueBehindNumber", "(II)I"⟩
abbrev cX3_numberAt : ByteArray := prog_5_method_8_code
def yX3_numberAt : MethodName := ⟨RX3, "numberAt", "(I)I"⟩
def RX4 : String := "RodChimes"
def TX4 : u_T := fun k => match k with
  | 0 => ("RodChimes", "text", "LRodChimes$Text;", true)
  | 1 => ("RodChimes", "rack", "LRodChimes$Rack;", true)
  | 2 => ("RodChimes", "present", "LRodChimes$Moment;", true)
  | 3 => ("RodChimes", "course", "LRodChimes$Course;", true)
  | 4 => ("RodChimes", "past", "[LRodChimes$Moment;", true)
  | 5 => ("RodChimes", "pastNext", "I", false)
  | 6 => ("RodChimes", "known", "I", false)
  | 7 => ("RodChimes", "images", "[LRodChimes$Moment;", true)
  | 8 => ("RodChimes", "imageKept", "[Z", true)
  | 9 => ("RodChimes", "heardRod", "[I", true)
  | 10 => ("RodChimes", "heardCalms", "[I", true)
  | 11 => ("RodChimes", "heardStruck", "[Z", true)
  | 12 => ("RodChimes", "heard", "I", false)
  | 13 => ("RodChimes", "strikes", "[I", true)
  | _ => ("RodChimes", "bodiesAsked", "J", false)
def tyX4 : Nat → FieldType := fun k => match k with
  | 0 => .object "RodChimes$Text"
  | 1 => .object "RodChimes$Rack"
  | 2 => .object "RodChimes$Moment"
  | 3 => .object "RodChimes$Course"
  | 4 => .array (.object "RodChimes$Moment")
  | 5 => .int
  | 6 => .int
  | 7 => .array (.object "RodChimes$Moment")
  | 8 => .array .boolean
  | 9 => .array .int
  | 10 => .array .int
  | 11 => .array .boolean
  | 12 => .int
  | 13 => .array .int
  | _ => .long
theorem nmX4 : ∀ a, a < 15 → ∀ b, b < 15 → a ≠ b → (TX4 a).2.1 ≠ (TX4 b).2.1 := by decide +kernel
theorem tyX4_ok : ∀ k, k < 15 → parseFieldDescriptor (TX4 k).2.2.1 = some (tyX4 k) := by decide +kernel
abbrev cX4_init : ByteArray := prog_1_method_1_code
def yX4_init : MethodName := ⟨RX4, "<init>", "()V"⟩
abbrev cX4_type : ByteArray := prog_1_method_2_code
def yX4_type : MethodName := ⟨RX4, "type", "(I)I"⟩
abbrev cX4_clear : ByteArray := prog_1_method_3_code
def yX4_clear : MethodName := ⟨RX4, "clear", "()I"⟩
abbrev cX4_chime : ByteArray := prog_1_method_4_code
def yX4_chime : MethodName := ⟨RX4, "chime", "()I"⟩
abbrev cX4_rod : ByteArray := prog_1_method_5_code
def yX4_rod : MethodName := ⟨RX4, "rod", "(II)I"⟩
abbrev cX4_side : ByteArray := prog_1_method_6_code
def yX4_side : MethodName := ⟨RX4, "side", "(I)I"⟩
abbrev cX4_now : ByteArray := prog_1_method_7_code
def yX4_now : MethodName := ⟨RX4, "now", "(I)I"⟩
abbrev cX4_blows : ByteArray := prog_1_method_8_code
def yX4_blows : MethodName := ⟨RX4, "blows", "(II)I"⟩
abbrev cX4_calms : ByteArray := prog_1_method_9_code
def yX4_calms : MethodName := ⟨RX4, "calms", "()I"⟩
abbrev cX4_changes : ByteArray := prog_1_method_10_code
def yX4_changes : MethodName := ⟨RX4, "changes", "(II)I"⟩
abbrev cX4_holds : ByteArray := prog_1_method_11_code
def yX4_holds : MethodName := ⟨RX4, "holds", "(I)I"⟩
abbrev cX4_undo : ByteArray := prog_1_method_12_code
def yX4_undo : MethodName := ⟨RX4, "undo", "()I"⟩
abbrev cX4_remember : ByteArray := prog_1_method_13_code
def yX4_remember : MethodName := ⟨RX4, "remember", "()V"⟩
abbrev cX4_comes : ByteArray := prog_1_method_14_code
def yX4_comes : MethodName := ⟨RX4, "comes", "(II)I"⟩
abbrev cX4_best : ByteArray := prog_1_method_15_code
def yX4_best : MethodName := ⟨RX4, "best", "(II)I"⟩
abbrev cX4_swap : ByteArray := prog_1_method_16_code
def yX4_swap : MethodName := ⟨RX4, "swap", "(III)I"⟩
abbrev cX4_odds : ByteArray := prog_1_method_17_code
def yX4_odds : MethodName := ⟨RX4, "odds", "(IIII)I"⟩
abbrev cX4_follow : ByteArray := prog_1_method_18_code
def yX4_follow : MethodName := ⟨RX4, "follow", "(III)V"⟩
abbrev cX4_followChanged : ByteArray := prog_1_method_19_code
def yX4_followChanged : MethodName := ⟨RX4, "followChanged", "(IIIII)V"⟩
abbrev cX4_greatestShared : ByteArray := prog_1_method_20_code
def yX4_greatestShared : MethodName := ⟨RX4, "greatestShared", "(II)I"⟩
abbrev cX4_hears : ByteArray := prog_1_method_21_code
def yX4_hears : MethodName := ⟨RX4, "hears", "(III)I"⟩
abbrev cX4_forget : ByteArray := prog_1_method_22_code
def yX4_forget : MethodName := ⟨RX4, "forget", "()I"⟩
abbrev cX4_gusts : ByteArray := prog_1_method_23_code
def yX4_gusts : MethodName := ⟨RX4, "gusts", "(I)I"⟩
abbrev cX4_listen : ByteArray := prog_1_method_24_code
def yX4_listen : MethodName := ⟨RX4, "listen", "(I)I"⟩
abbrev cX4_countStrikes : ByteArray := prog_1_method_25_code
def yX4_countStrikes : MethodName := ⟨RX4, "countStrikes", "(I)I"⟩
abbrev cX4_addStrikes : ByteArray := prog_1_method_26_code
def yX4_addStrikes : MethodName := ⟨RX4, "addStrikes", "(I)V"⟩
abbrev cX4_fitsHeard : ByteArray := prog_1_method_27_code
def yX4_fitsHeard : MethodName := ⟨RX4, "fitsHeard", "()Z"⟩
abbrev cX4_rate : ByteArray := prog_1_method_28_code
def yX4_rate : MethodName := ⟨RX4, "rate", "(II)I"⟩
abbrev cX4_rateChime : ByteArray := prog_1_method_29_code
def yX4_rateChime : MethodName := ⟨RX4, "rateChime", "(I)I"⟩
abbrev cX4_rateGlass : ByteArray := prog_1_method_30_code
def yX4_rateGlass : MethodName := ⟨RX4, "rateGlass", "(I)I"⟩
abbrev cX4_rateShell : ByteArray := prog_1_method_31_code
def yX4_rateShell : MethodName := ⟨RX4, "rateShell", "(I)I"⟩
abbrev cX4_rateBell : ByteArray := prog_1_method_32_code
def yX4_rateBell : MethodName := ⟨RX4, "rateBell", "(I)I"⟩
abbrev cX4_rateBone : ByteArray := prog_1_method_33_code
def yX4_rateBone : MethodName := ⟨RX4, "rateBone", "(I)I"⟩
abbrev cX4_rateBrass : ByteArray := prog_1_method_34_code
def yX4_rateBrass : MethodName := ⟨RX4, "rateBrass", "(I)I"⟩
abbrev cX4_keep : ByteArray := prog_1_method_35_code
def yX4_keep : MethodName := ⟨RX4, "keep", "(I)I"⟩
abbrev cX4_back : ByteArray := prog_1_method_36_code
def yX4_back : MethodName := ⟨RX4, "back", "(I)I"⟩
abbrev cX4_count : ByteArray := prog_1_method_37_code
def yX4_count : MethodName := ⟨RX4, "count", "(I)I"⟩
abbrev cX4_trace : ByteArray := prog_1_method_38_code
def yX4_trace : MethodName := ⟨RX4, "trace", "()J"⟩
abbrev cX4_isWithin : ByteArray := prog_1_method_39_code
def yX4_isWithin : MethodName := ⟨RX4, "isWithin", "(III)Z"⟩
abbrev cX4_isSide : ByteArray := prog_1_method_40_code
def yX4_isSide : MethodName := ⟨RX4, "isSide", "(I)Z"⟩
abbrev cX4_isStrength : ByteArray := prog_1_method_41_code
def yX4_isStrength : MethodName := ⟨RX4, "isStrength", "(I)Z"⟩
abbrev cX4_areCalms : ByteArray := prog_1_method_42_code
def yX4_areCalms : MethodName := ⟨RX4, "areCalms", "(I)Z"⟩
abbrev cX4_gustNumber : ByteArray := prog_1_method_43_code
def yX4_gustNumber : MethodName := ⟨RX4, "gustNumber", "(II)I"⟩
def RX5 : String := "RodChimesModel"
def TX5 : u_T := fun k => match k with
  | 0 => ("RodChimesModel", "thrown", "I", false)
  | 1 => ("RodChimesModel", "trace", "J", false)
  | 2 => ("RodChimesModel", "text", "[I", true)
  | 3 => ("RodChimesModel", "typed", "I", false)
  | 4 => ("RodChimesModel", "next", "I", false)
  | 5 => ("RodChimesModel", "token", "I", false)
  | 6 => ("RodChimesModel", "place", "I", false)
  | 7 => ("RodChimesModel", "value", "I", false)
  | 8 => ("RodChimesModel", "fault", "I", false)
  | 9 => ("RodChimesModel", "rods", "I", false)
  | 10 => ("RodChimesModel", "damp", "I", false)
  | 11 => ("RodChimesModel", "rodsTold", "I", false)
  | 12 => ("RodChimesModel", "dampTold", "I", false)
  | 13 => ("RodChimesModel", "isDampTold", "Z", false)
  | 14 => ("RodChimesModel", "tone", "[I", true)
  | 15 => ("RodChimesModel", "gap", "[I", true)
  | 16 => ("RodChimesModel", "ring", "[I", true)
  | 17 => ("RodChimesModel", "s", "[I", true)
  | 18 => ("RodChimesModel", "trial", "[I", true)
  | 19 => ("RodChimesModel", "kept", "[I", true)
  | 20 => ("RodChimesModel", "isKept", "[Z", true)
  | 21 => ("RodChimesModel", "undos", "[I", true)
  | 22 => ("RodChimesModel", "undoMany", "I", false)
  | 23 => ("RodChimesModel", "heardRod", "[I", true)
  | 24 => ("RodChimesModel", "heardIn", "[I", true)
  | 25 => ("RodChimesModel", "heard", "[I", true)
  | 26 => ("RodChimesModel", "heardMany", "I", false)
  | 27 => ("RodChimesModel", "struck", "I", false)
  | 28 => ("RodChimesModel", "harshest", "I", false)
  | _ => ("RodChimesModel", "times", "[I", true)
def tyX5 : Nat → FieldType := fun k => match k with
  | 0 => .int
  | 1 => .long
  | 2 => .array .int
  | 3 => .int
  | 4 => .int
  | 5 => .int
  | 6 => .int
  | 7 => .int
  | 8 => .int
  | 9 => .int
  | 10 => .int
  | 11 => .int
  | 12 => .int
  | 13 => .boolean
  | 14 => .array .int
  | 15 => .array .int
  | 16 => .array .int
  | 17 => .array .int
  | 18 => .array .int
  | 19 => .array .int
  | 20 => .array .boolean
  | 21 => .array .int
  | 22 => .int
  | 23 => .array .int
  | 24 => .array .int
  | 25 => .array .int
  | 26 => .int
  | 27 => .int
  | 28 => .int
  | _ => .array .int
theorem nmX5 : ∀ a, a < 30 → ∀ b, b < 30 → a ≠ b → (TX5 a).2.1 ≠ (TX5 b).2.1 := by decide +kernel
theorem tyX5_ok : ∀ k, k < 30 → parseFieldDescriptor (TX5 k).2.2.1 = some (tyX5 k) := by decide +kernel
abbrev cX5_init : ByteArray := prog_7_method_1_code
def yX5_init : MethodName := ⟨RX5, "<init>", "()V"⟩
abbrev cX5_in : ByteArray := prog_7_method_3_code
def yX5_in : MethodName := ⟨RX5, "in", "(III)Z"⟩
abbrev cX5_has : ByteArray := prog_7_method_4_code
def yX5_has : MethodName := ⟨RX5, "has", "(II)Z"⟩
abbrev cX5_ones : ByteArray := prog_7_method_5_code
def yX5_ones : MethodName := ⟨RX5, "ones", "(I)I"⟩
abbrev cX5_type : ByteArray := prog_7_method_6_code
def yX5_type : MethodName := ⟨RX5, "type", "(I)I"⟩
abbrev cX5_clear : ByteArray := prog_7_method_7_code
def yX5_clear : MethodName := ⟨RX5, "clear", "()I"⟩
abbrev cX5_letterAt : ByteArray := prog_7_method_8_code
def yX5_letterAt : MethodName := ⟨RX5, "letterAt", "(I)I"⟩
abbrev cX5_advances : ByteArray := prog_7_method_9_code
def yX5_advances : MethodName := ⟨RX5, "advances", "()V"⟩
abbrev cX5_isWell : ByteArray := prog_7_method_10_code
def yX5_isWell : MethodName := ⟨RX5, "isWell", "()Z"⟩
abbrev cX5_takes : ByteArray := prog_7_method_11_code
def yX5_takes : MethodName := ⟨RX5, "takes", "(Z)I"⟩
abbrev cX5_number : ByteArray := prog_7_method_12_code
def yX5_number : MethodName := ⟨RX5, "number", "(II)I"⟩
abbrev cX5_readsItem : ByteArray := prog_7_method_13_code
def yX5_readsItem : MethodName := ⟨RX5, "readsItem", "(I)V"⟩
abbrev cX5_chime : ByteArray := prog_7_method_14_code
def yX5_chime : MethodName := ⟨RX5, "chime", "()I"⟩
abbrev cX5_settles : ByteArray := prog_7_method_15_code
def yX5_settles : MethodName := ⟨RX5, "settles", "()V"⟩
abbrev cX5_isRod : ByteArray := prog_7_method_16_code
def yX5_isRod : MethodName := ⟨RX5, "isRod", "(I)Z"⟩
abbrev cX5_rodAt : ByteArray := prog_7_method_17_code
def yX5_rodAt : MethodName := ⟨RX5, "rodAt", "([II)I"⟩
abbrev cX5_ringing : ByteArray := prog_7_method_18_code
def yX5_ringing : MethodName := ⟨RX5, "ringing", "([I)I"⟩
abbrev cX5_isHarsh : ByteArray := prog_7_method_19_code
def yX5_isHarsh : MethodName := ⟨RX5, "isHarsh", "(II)Z"⟩
abbrev cX5_harshOf : ByteArray := prog_7_method_20_code
def yX5_harshOf : MethodName := ⟨RX5, "harshOf", "([I)I"⟩
abbrev cX5_beats : ByteArray := prog_7_method_21_code
def yX5_beats : MethodName := ⟨RX5, "beats", "([III)I"⟩
abbrev cX5_asNow : ByteArray := prog_7_method_22_code
def yX5_asNow : MethodName := ⟨RX5, "asNow", "()V"⟩
abbrev cX5_heardNow : ByteArray := prog_7_method_23_code
def yX5_heardNow : MethodName := ⟨RX5, "heardNow", "(I)V"⟩
abbrev cX5_calmBeats : ByteArray := prog_7_method_24_code
def yX5_calmBeats : MethodName := ⟨RX5, "calmBeats", "(I)V"⟩
abbrev cX5_gustAndCalm : ByteArray := prog_7_method_25_code
def yX5_gustAndCalm : MethodName := ⟨RX5, "gustAndCalm", "(III)V"⟩
abbrev cX5_stillIn : ByteArray := prog_7_method_26_code
def yX5_stillIn : MethodName := ⟨RX5, "stillIn", "()I"⟩
abbrev cX5_rod : ByteArray := prog_7_method_27_code
def yX5_rod : MethodName := ⟨RX5, "rod", "(II)I"⟩
abbrev cX5_side : ByteArray := prog_7_method_28_code
def yX5_side : MethodName := ⟨RX5, "side", "(I)I"⟩
abbrev cX5_now : ByteArray := prog_7_method_29_code
def yX5_now : MethodName := ⟨RX5, "now", "(I)I"⟩
abbrev cX5_notes : ByteArray := prog_7_method_30_code
def yX5_notes : MethodName := ⟨RX5, "notes", "()V"⟩
abbrev cX5_blows : ByteArray := prog_7_method_31_code
def yX5_blows : MethodName := ⟨RX5, "blows", "(II)I"⟩
abbrev cX5_calms : ByteArray := prog_7_method_32_code
def yX5_calms : MethodName := ⟨RX5, "calms", "()I"⟩
abbrev cX5_trades : ByteArray := prog_7_method_33_code
def yX5_trades : MethodName := ⟨RX5, "trades", "([III)V"⟩
abbrev cX5_changes : ByteArray := prog_7_method_34_code
def yX5_changes : MethodName := ⟨RX5, "changes", "(II)I"⟩
abbrev cX5_holds : ByteArray := prog_7_method_35_code
def yX5_holds : MethodName := ⟨RX5, "holds", "(I)I"⟩
abbrev cX5_undo : ByteArray := prog_7_method_36_code
def yX5_undo : MethodName := ⟨RX5, "undo", "()I"⟩
abbrev cX5_comes : ByteArray := prog_7_method_37_code
def yX5_comes : MethodName := ⟨RX5, "comes", "(II)I"⟩
abbrev cX5_best : ByteArray := prog_7_method_38_code
def yX5_best : MethodName := ⟨RX5, "best", "(II)I"⟩
abbrev cX5_swap : ByteArray := prog_7_method_39_code
def yX5_swap : MethodName := ⟨RX5, "swap", "(III)I"⟩
abbrev cX5_gcd : ByteArray := prog_7_method_40_code
def yX5_gcd : MethodName := ⟨RX5, "gcd", "(II)I"⟩
abbrev cX5_odds : ByteArray := prog_7_method_41_code
def yX5_odds : MethodName := ⟨RX5, "odds", "(IIII)I"⟩
abbrev cX5_hears : ByteArray := prog_7_method_42_code
def yX5_hears : MethodName := ⟨RX5, "hears", "(III)I"⟩
abbrev cX5_forget : ByteArray := prog_7_method_43_code
def yX5_forget : MethodName := ⟨RX5, "forget", "()I"⟩
abbrev cX5_isAsHeard : ByteArray := prog_7_method_44_code
def yX5_isAsHeard : MethodName := ⟨RX5, "isAsHeard", "(I)Z"⟩
abbrev cX5_gusts : ByteArray := prog_7_method_45_code
def yX5_gusts : MethodName := ⟨RX5, "gusts", "(I)I"⟩
abbrev cX5_listen : ByteArray := prog_7_method_46_code
def yX5_listen : MethodName := ⟨RX5, "listen", "(I)I"⟩
abbrev cX5_rate : ByteArray := prog_7_method_47_code
def yX5_rate : MethodName := ⟨RX5, "rate", "(II)I"⟩
abbrev cX5_keep : ByteArray := prog_7_method_48_code
def yX5_keep : MethodName := ⟨RX5, "keep", "(I)I"⟩
abbrev cX5_back : ByteArray := prog_7_method_49_code
def yX5_back : MethodName := ⟨RX5, "back", "(I)I"⟩
abbrev cX5_count : ByteArray := prog_7_method_50_code
def yX5_count : MethodName := ⟨RX5, "count", "(I)I"⟩
abbrev cX5_trace : ByteArray := prog_7_method_51_code
def yX5_trace : MethodName := ⟨RX5, "trace", "()J"⟩
def RJ6 : String := "java/lang/Integer"
def TJ6 : u_T := fun k => match k with
  | _ => ("", "", "", false)
def tyJ6 : Nat → FieldType := fun k => match k with
  | _ => .int
abbrev wsJ60 : List Cond := u_ws RJ6 TJ6 0
theorem nmJ6 : ∀ a, a < 0 → ∀ b, b < 0 → a ≠ b → (TJ6 a).2.1 ≠ (TJ6 b).2.1 := by decide +kernel
theorem tyJ6_ok : ∀ k, k < 0 → parseFieldDescriptor (TJ6 k).2.2.1 = some (tyJ6 k) := by decide +kernel
abbrev cJ6_bitCount_0f7a4 : ByteArray := prog_8_method_49_code
def yJ6_bitCount_0f7a4 : MethodName := ⟨RJ6, "bitCount", "(I)I"⟩
def RJ9 : String := "java/lang/Math"
def TJ9 : u_T := fun k => match k with
  | _ => ("", "", "", false)
def tyJ9 : Nat → FieldType := fun k => match k with
  | _ => .int
abbrev wsJ90 : List Cond := u_ws RJ9 TJ9 0
theorem nmJ9 : ∀ a, a < 0 → ∀ b, b < 0 → a ≠ b → (TJ9 a).2.1 ≠ (TJ9 b).2.1 := by decide +kernel
theorem tyJ9_ok : ∀ k, k < 0 → parseFieldDescriptor (TJ9 k).2.2.1 = some (tyJ9 k) := by decide +kernel
abbrev cJ9_max_7cf53 : ByteArray := prog_9_method_65_code
def yJ9_max_7cf53 : MethodName := ⟨RJ9, "max", "(II)I"⟩
abbrev cJ9_min_7cf53 : ByteArray := prog_9_method_69_code
def yJ9_min_7cf53 : MethodName := ⟨RJ9, "min", "(II)I"⟩
def RL : String := "RodChimesLaw"
abbrev cL_law : ByteArray := code
def yL_law : MethodName := ⟨RL, "law", "([I)Z"⟩
abbrev vwCl : List vw_C := [(RX0, TX0, 5), (RX1, TX1, 6), (RX2, TX2, 5), (RX3, TX3, 7), (RX4, TX4, 15), (RX5, TX5, 30)]
end
section
theorem dJ6_bitCount_0f7a4_0 : decode cJ6_bitCount_0f7a4 0 = .ok (.iload_n 0, 1) := by decide +kernel
theorem dJ6_bitCount_0f7a4_1 : decode cJ6_bitCount_0f7a4 1 = .ok (.iload_n 0, 1) := by decide +kernel
theorem dJ6_bitCount_0f7a4_2 : decode cJ6_bitCount_0f7a4 2 = .ok (.iconst 1, 1) := by decide +kernel
theorem dJ6_bitCount_0f7a4_3 : decode cJ6_bitCount_0f7a4 3 = .ok (.iushr, 1) := by decide +kernel
theorem dJ6_bitCount_0f7a4_4 : decode cJ6_bitCount_0f7a4 4 = .ok (.ldc_w 265, 3) := by decide +kernel
theorem dJ6_bitCount_0f7a4_7 : decode cJ6_bitCount_0f7a4 7 = .ok (.iand, 1) := by decide +kernel
theorem dJ6_bitCount_0f7a4_8 : decode cJ6_bitCount_0f7a4 8 = .ok (.isub, 1) := by decide +kernel
theorem dJ6_bitCount_0f7a4_9 : decode cJ6_bitCount_0f7a4 9 = .ok (.istore_n 0, 1) := by decide +kernel
theorem dJ6_bitCount_0f7a4_10 : decode cJ6_bitCount_0f7a4 10 = .ok (.iload_n 0, 1) := by decide +kernel
theorem dJ6_bitCount_0f7a4_11 : decode cJ6_bitCount_0f7a4 11 = .ok (.ldc_w 266, 3) := by decide +kernel
theorem dJ6_bitCount_0f7a4_14 : decode cJ6_bitCount_0f7a4 14 = .ok (.iand, 1) := by decide +kernel
theorem dJ6_bitCount_0f7a4_15 : decode cJ6_bitCount_0f7a4 15 = .ok (.iload_n 0, 1) := by decide +kernel
theorem dJ6_bitCount_0f7a4_16 : decode cJ6_bitCount_0f7a4 16 = .ok (.iconst 2, 1) := by decide +kernel
theorem dJ6_bitCount_0f7a4_17 : decode cJ6_bitCount_0f7a4 17 = .ok (.iushr, 1) := by decide +kernel
theorem dJ6_bitCount_0f7a4_18 : decode cJ6_bitCount_0f7a4 18 = .ok (.ldc_w 266, 3) := by decide +kernel
theorem dJ6_bitCount_0f7a4_21 : decode cJ6_bitCount_0f7a4 21 = .ok (.iand, 1) := by decide +kernel
theorem dJ6_bitCount_0f7a4_22 : decode cJ6_bitCount_0f7a4 22 = .ok (.iadd, 1) := by decide +kernel
theorem dJ6_bitCount_0f7a4_23 : decode cJ6_bitCount_0f7a4 23 = .ok (.istore_n 0, 1) := by decide +kernel
theorem dJ6_bitCount_0f7a4_24 : decode cJ6_bitCount_0f7a4 24 = .ok (.iload_n 0, 1) := by decide +kernel
theorem dJ6_bitCount_0f7a4_25 : decode cJ6_bitCount_0f7a4 25 = .ok (.iload_n 0, 1) := by decide +kernel
theorem dJ6_bitCount_0f7a4_26 : decode cJ6_bitCount_0f7a4 26 = .ok (.iconst 4, 1) := by decide +kernel
theorem dJ6_bitCount_0f7a4_27 : decode cJ6_bitCount_0f7a4 27 = .ok (.iushr, 1) := by decide +kernel
theorem dJ6_bitCount_0f7a4_28 : decode cJ6_bitCount_0f7a4 28 = .ok (.iadd, 1) := by decide +kernel
theorem dJ6_bitCount_0f7a4_29 : decode cJ6_bitCount_0f7a4 29 = .ok (.ldc_w 267, 3) := by decide +kernel
theorem dJ6_bitCount_0f7a4_32 : decode cJ6_bitCount_0f7a4 32 = .ok (.iand, 1) := by decide +kernel
theorem dJ6_bitCount_0f7a4_33 : decode cJ6_bitCount_0f7a4 33 = .ok (.istore_n 0, 1) := by decide +kernel
theorem dJ6_bitCount_0f7a4_34 : decode cJ6_bitCount_0f7a4 34 = .ok (.iload_n 0, 1) := by decide +kernel
theorem dJ6_bitCount_0f7a4_35 : decode cJ6_bitCount_0f7a4 35 = .ok (.iload_n 0, 1) := by decide +kernel
theorem dJ6_bitCount_0f7a4_36 : decode cJ6_bitCount_0f7a4 36 = .ok (.bipush 8, 2) := by decide +kernel
theorem dJ6_bitCount_0f7a4_38 : decode cJ6_bitCount_0f7a4 38 = .ok (.iushr, 1) := by decide +kernel
theorem dJ6_bitCount_0f7a4_39 : decode cJ6_bitCount_0f7a4 39 = .ok (.iadd, 1) := by decide +kernel
theorem dJ6_bitCount_0f7a4_40 : decode cJ6_bitCount_0f7a4 40 = .ok (.istore_n 0, 1) := by decide +kernel
theorem dJ6_bitCount_0f7a4_41 : decode cJ6_bitCount_0f7a4 41 = .ok (.iload_n 0, 1) := by decide +kernel
theorem dJ6_bitCount_0f7a4_42 : decode cJ6_bitCount_0f7a4 42 = .ok (.iload_n 0, 1) := by decide +kernel
theorem dJ6_bitCount_0f7a4_43 : decode cJ6_bitCount_0f7a4 43 = .ok (.bipush 16, 2) := by decide +kernel
theorem dJ6_bitCount_0f7a4_45 : decode cJ6_bitCount_0f7a4 45 = .ok (.iushr, 1) := by decide +kernel
theorem dJ6_bitCount_0f7a4_46 : decode cJ6_bitCount_0f7a4 46 = .ok (.iadd, 1) := by decide +kernel
theorem dJ6_bitCount_0f7a4_47 : decode cJ6_bitCount_0f7a4 47 = .ok (.istore_n 0, 1) := by decide +kernel
theorem dJ6_bitCount_0f7a4_48 : decode cJ6_bitCount_0f7a4 48 = .ok (.iload_n 0, 1) := by decide +kernel
theorem dJ6_bitCount_0f7a4_49 : decode cJ6_bitCount_0f7a4 49 = .ok (.bipush 63, 2) := by decide +kernel
theorem dJ6_bitCount_0f7a4_51 : decode cJ6_bitCount_0f7a4 51 = .ok (.iand, 1) := by decide +kernel
theorem dJ6_bitCount_0f7a4_52 : decode cJ6_bitCount_0f7a4 52 = .ok (.ireturn, 1) := by decide +kernel
end
section
theorem dJ9_max_7cf53_0 : decode cJ9_max_7cf53 0 = .ok (.iload_n 0, 1) := by decide +kernel
theorem dJ9_max_7cf53_1 : decode cJ9_max_7cf53 1 = .ok (.iload_n 1, 1) := by decide +kernel
theorem dJ9_max_7cf53_2 : decode cJ9_max_7cf53 2 = .ok (.if_icmp .lt 7, 3) := by decide +kernel
theorem dJ9_max_7cf53_5 : decode cJ9_max_7cf53 5 = .ok (.iload_n 0, 1) := by decide +kernel
theorem dJ9_max_7cf53_6 : decode cJ9_max_7cf53 6 = .ok (.goto 4, 3) := by decide +kernel
theorem dJ9_max_7cf53_9 : decode cJ9_max_7cf53 9 = .ok (.iload_n 1, 1) := by decide +kernel
theorem dJ9_max_7cf53_10 : decode cJ9_max_7cf53 10 = .ok (.ireturn, 1) := by decide +kernel
theorem dJ9_min_7cf53_0 : decode cJ9_min_7cf53 0 = .ok (.iload_n 0, 1) := by decide +kernel
theorem dJ9_min_7cf53_1 : decode cJ9_min_7cf53 1 = .ok (.iload_n 1, 1) := by decide +kernel
theorem dJ9_min_7cf53_2 : decode cJ9_min_7cf53 2 = .ok (.if_icmp .gt 7, 3) := by decide +kernel
theorem dJ9_min_7cf53_5 : decode cJ9_min_7cf53 5 = .ok (.iload_n 0, 1) := by decide +kernel
theorem dJ9_min_7cf53_6 : decode cJ9_min_7cf53 6 = .ok (.goto 4, 3) := by decide +kernel
theorem dJ9_min_7cf53_9 : decode cJ9_min_7cf53 9 = .ok (.iload_n 1, 1) := by decide +kernel
theorem dJ9_min_7cf53_10 : decode cJ9_min_7cf53 10 = .ok (.ireturn, 1) := by decide +kernel
end
section
theorem dL_law_0 : decode cL_law 0 = .ok (.new 7, 3) := by decide +kernel
theorem dL_law_3 : decode cL_law 3 = .ok (.dup, 1) := by decide +kernel
theorem dL_law_4 : decode cL_law 4 = .ok (.invokespecial 9, 3) := by decide +kernel
theorem dL_law_7 : decode cL_law 7 = .ok (.astore_n 1, 1) := by decide +kernel
theorem dL_law_8 : decode cL_law 8 = .ok (.new 10, 3) := by decide +kernel
theorem dL_law_11 : decode cL_law 11 = .ok (.dup, 1) := by decide +kernel
theorem dL_law_12 : decode cL_law 12 = .ok (.invokespecial 12, 3) := by decide +kernel
theorem dL_law_15 : decode cL_law 15 = .ok (.astore_n 2, 1) := by decide +kernel
theorem dL_law_16 : decode cL_law 16 = .ok (.iconst 0, 1) := by decide +kernel
theorem dL_law_17 : decode cL_law 17 = .ok (.istore_n 3, 1) := by decide +kernel
theorem dL_law_18 : decode cL_law 18 = .ok (.iload_n 3, 1) := by decide +kernel
theorem dL_law_19 : decode cL_law 19 = .ok (.aload_n 0, 1) := by decide +kernel
theorem dL_law_20 : decode cL_law 20 = .ok (.arraylength, 1) := by decide +kernel
theorem dL_law_21 : decode cL_law 21 = .ok (.iconst 5, 1) := by decide +kernel
theorem dL_law_22 : decode cL_law 22 = .ok (.isub, 1) := by decide +kernel
theorem dL_law_23 : decode cL_law 23 = .ok (.if_icmp .gt 750, 3) := by decide +kernel
theorem dL_law_26 : decode cL_law 26 = .ok (.aload_n 0, 1) := by decide +kernel
theorem dL_law_27 : decode cL_law 27 = .ok (.iload_n 3, 1) := by decide +kernel
theorem dL_law_28 : decode cL_law 28 = .ok (.iaload, 1) := by decide +kernel
theorem dL_law_29 : decode cL_law 29 = .ok (.bipush 31, 2) := by decide +kernel
theorem dL_law_31 : decode cL_law 31 = .ok (.iand, 1) := by decide +kernel
theorem dL_law_32 : decode cL_law 32 = .ok (.tableswitch 735 0 23 #[112, 135, 148, 161, 194, 217, 240, 273, 286, 319, 342, 355, 388, 421, 464, 517, 560, 573, 596, 619, 652, 675, 698, 721], 112) := by decide +kernel
theorem dL_law_144 : decode cL_law 144 = .ok (.aload_n 1, 1) := by decide +kernel
theorem dL_law_145 : decode cL_law 145 = .ok (.aload_n 0, 1) := by decide +kernel
theorem dL_law_146 : decode cL_law 146 = .ok (.iload_n 3, 1) := by decide +kernel
theorem dL_law_147 : decode cL_law 147 = .ok (.iconst 1, 1) := by decide +kernel
theorem dL_law_148 : decode cL_law 148 = .ok (.iadd, 1) := by decide +kernel
theorem dL_law_149 : decode cL_law 149 = .ok (.iaload, 1) := by decide +kernel
theorem dL_law_150 : decode cL_law 150 = .ok (.invokevirtual 13, 3) := by decide +kernel
theorem dL_law_153 : decode cL_law 153 = .ok (.aload_n 2, 1) := by decide +kernel
theorem dL_law_154 : decode cL_law 154 = .ok (.aload_n 0, 1) := by decide +kernel
theorem dL_law_155 : decode cL_law 155 = .ok (.iload_n 3, 1) := by decide +kernel
theorem dL_law_156 : decode cL_law 156 = .ok (.iconst 1, 1) := by decide +kernel
theorem dL_law_157 : decode cL_law 157 = .ok (.iadd, 1) := by decide +kernel
theorem dL_law_158 : decode cL_law 158 = .ok (.iaload, 1) := by decide +kernel
theorem dL_law_159 : decode cL_law 159 = .ok (.invokevirtual 17, 3) := by decide +kernel
theorem dL_law_162 : decode cL_law 162 = .ok (.if_icmp .eq 605, 3) := by decide +kernel
theorem dL_law_165 : decode cL_law 165 = .ok (.iconst 0, 1) := by decide +kernel
theorem dL_law_166 : decode cL_law 166 = .ok (.ireturn, 1) := by decide +kernel
theorem dL_law_167 : decode cL_law 167 = .ok (.aload_n 1, 1) := by decide +kernel
theorem dL_law_168 : decode cL_law 168 = .ok (.invokevirtual 18, 3) := by decide +kernel
theorem dL_law_171 : decode cL_law 171 = .ok (.aload_n 2, 1) := by decide +kernel
theorem dL_law_172 : decode cL_law 172 = .ok (.invokevirtual 22, 3) := by decide +kernel
theorem dL_law_175 : decode cL_law 175 = .ok (.if_icmp .eq 592, 3) := by decide +kernel
theorem dL_law_178 : decode cL_law 178 = .ok (.iconst 0, 1) := by decide +kernel
theorem dL_law_179 : decode cL_law 179 = .ok (.ireturn, 1) := by decide +kernel
theorem dL_law_180 : decode cL_law 180 = .ok (.aload_n 1, 1) := by decide +kernel
theorem dL_law_181 : decode cL_law 181 = .ok (.invokevirtual 23, 3) := by decide +kernel
theorem dL_law_184 : decode cL_law 184 = .ok (.aload_n 2, 1) := by decide +kernel
theorem dL_law_185 : decode cL_law 185 = .ok (.invokevirtual 26, 3) := by decide +kernel
theorem dL_law_188 : decode cL_law 188 = .ok (.if_icmp .eq 579, 3) := by decide +kernel
theorem dL_law_191 : decode cL_law 191 = .ok (.iconst 0, 1) := by decide +kernel
theorem dL_law_192 : decode cL_law 192 = .ok (.ireturn, 1) := by decide +kernel
theorem dL_law_193 : decode cL_law 193 = .ok (.aload_n 1, 1) := by decide +kernel
theorem dL_law_194 : decode cL_law 194 = .ok (.aload_n 0, 1) := by decide +kernel
theorem dL_law_195 : decode cL_law 195 = .ok (.iload_n 3, 1) := by decide +kernel
theorem dL_law_196 : decode cL_law 196 = .ok (.iconst 1, 1) := by decide +kernel
theorem dL_law_197 : decode cL_law 197 = .ok (.iadd, 1) := by decide +kernel
theorem dL_law_198 : decode cL_law 198 = .ok (.iaload, 1) := by decide +kernel
theorem dL_law_199 : decode cL_law 199 = .ok (.aload_n 0, 1) := by decide +kernel
theorem dL_law_200 : decode cL_law 200 = .ok (.iload_n 3, 1) := by decide +kernel
theorem dL_law_201 : decode cL_law 201 = .ok (.iconst 2, 1) := by decide +kernel
theorem dL_law_202 : decode cL_law 202 = .ok (.iadd, 1) := by decide +kernel
theorem dL_law_203 : decode cL_law 203 = .ok (.iaload, 1) := by decide +kernel
theorem dL_law_204 : decode cL_law 204 = .ok (.invokevirtual 27, 3) := by decide +kernel
theorem dL_law_207 : decode cL_law 207 = .ok (.aload_n 2, 1) := by decide +kernel
theorem dL_law_208 : decode cL_law 208 = .ok (.aload_n 0, 1) := by decide +kernel
theorem dL_law_209 : decode cL_law 209 = .ok (.iload_n 3, 1) := by decide +kernel
theorem dL_law_210 : decode cL_law 210 = .ok (.iconst 1, 1) := by decide +kernel
theorem dL_law_211 : decode cL_law 211 = .ok (.iadd, 1) := by decide +kernel
theorem dL_law_212 : decode cL_law 212 = .ok (.iaload, 1) := by decide +kernel
theorem dL_law_213 : decode cL_law 213 = .ok (.aload_n 0, 1) := by decide +kernel
theorem dL_law_214 : decode cL_law 214 = .ok (.iload_n 3, 1) := by decide +kernel
theorem dL_law_215 : decode cL_law 215 = .ok (.iconst 2, 1) := by decide +kernel
theorem dL_law_216 : decode cL_law 216 = .ok (.iadd, 1) := by decide +kernel
theorem dL_law_217 : decode cL_law 217 = .ok (.iaload, 1) := by decide +kernel
theorem dL_law_218 : decode cL_law 218 = .ok (.invokevirtual 31, 3) := by decide +kernel
theorem dL_law_221 : decode cL_law 221 = .ok (.if_icmp .eq 546, 3) := by decide +kernel
theorem dL_law_224 : decode cL_law 224 = .ok (.iconst 0, 1) := by decide +kernel
theorem dL_law_225 : decode cL_law 225 = .ok (.ireturn, 1) := by decide +kernel
theorem dL_law_226 : decode cL_law 226 = .ok (.aload_n 1, 1) := by decide +kernel
theorem dL_law_227 : decode cL_law 227 = .ok (.aload_n 0, 1) := by decide +kernel
theorem dL_law_228 : decode cL_law 228 = .ok (.iload_n 3, 1) := by decide +kernel
theorem dL_law_229 : decode cL_law 229 = .ok (.iconst 1, 1) := by decide +kernel
theorem dL_law_230 : decode cL_law 230 = .ok (.iadd, 1) := by decide +kernel
theorem dL_law_231 : decode cL_law 231 = .ok (.iaload, 1) := by decide +kernel
theorem dL_law_232 : decode cL_law 232 = .ok (.invokevirtual 32, 3) := by decide +kernel
theorem dL_law_235 : decode cL_law 235 = .ok (.aload_n 2, 1) := by decide +kernel
theorem dL_law_236 : decode cL_law 236 = .ok (.aload_n 0, 1) := by decide +kernel
theorem dL_law_237 : decode cL_law 237 = .ok (.iload_n 3, 1) := by decide +kernel
theorem dL_law_238 : decode cL_law 238 = .ok (.iconst 1, 1) := by decide +kernel
theorem dL_law_239 : decode cL_law 239 = .ok (.iadd, 1) := by decide +kernel
theorem dL_law_240 : decode cL_law 240 = .ok (.iaload, 1) := by decide +kernel
theorem dL_law_241 : decode cL_law 241 = .ok (.invokevirtual 35, 3) := by decide +kernel
theorem dL_law_244 : decode cL_law 244 = .ok (.if_icmp .eq 523, 3) := by decide +kernel
theorem dL_law_247 : decode cL_law 247 = .ok (.iconst 0, 1) := by decide +kernel
theorem dL_law_248 : decode cL_law 248 = .ok (.ireturn, 1) := by decide +kernel
theorem dL_law_249 : decode cL_law 249 = .ok (.aload_n 1, 1) := by decide +kernel
theorem dL_law_250 : decode cL_law 250 = .ok (.aload_n 0, 1) := by decide +kernel
theorem dL_law_251 : decode cL_law 251 = .ok (.iload_n 3, 1) := by decide +kernel
theorem dL_law_252 : decode cL_law 252 = .ok (.iconst 1, 1) := by decide +kernel
theorem dL_law_253 : decode cL_law 253 = .ok (.iadd, 1) := by decide +kernel
theorem dL_law_254 : decode cL_law 254 = .ok (.iaload, 1) := by decide +kernel
theorem dL_law_255 : decode cL_law 255 = .ok (.invokevirtual 36, 3) := by decide +kernel
theorem dL_law_258 : decode cL_law 258 = .ok (.aload_n 2, 1) := by decide +kernel
theorem dL_law_259 : decode cL_law 259 = .ok (.aload_n 0, 1) := by decide +kernel
theorem dL_law_260 : decode cL_law 260 = .ok (.iload_n 3, 1) := by decide +kernel
theorem dL_law_261 : decode cL_law 261 = .ok (.iconst 1, 1) := by decide +kernel
theorem dL_law_262 : decode cL_law 262 = .ok (.iadd, 1) := by decide +kernel
theorem dL_law_263 : decode cL_law 263 = .ok (.iaload, 1) := by decide +kernel
theorem dL_law_264 : decode cL_law 264 = .ok (.invokevirtual 39, 3) := by decide +kernel
theorem dL_law_267 : decode cL_law 267 = .ok (.if_icmp .eq 500, 3) := by decide +kernel
theorem dL_law_270 : decode cL_law 270 = .ok (.iconst 0, 1) := by decide +kernel
theorem dL_law_271 : decode cL_law 271 = .ok (.ireturn, 1) := by decide +kernel
theorem dL_law_272 : decode cL_law 272 = .ok (.aload_n 1, 1) := by decide +kernel
theorem dL_law_273 : decode cL_law 273 = .ok (.aload_n 0, 1) := by decide +kernel
theorem dL_law_274 : decode cL_law 274 = .ok (.iload_n 3, 1) := by decide +kernel
theorem dL_law_275 : decode cL_law 275 = .ok (.iconst 1, 1) := by decide +kernel
theorem dL_law_276 : decode cL_law 276 = .ok (.iadd, 1) := by decide +kernel
theorem dL_law_277 : decode cL_law 277 = .ok (.iaload, 1) := by decide +kernel
theorem dL_law_278 : decode cL_law 278 = .ok (.aload_n 0, 1) := by decide +kernel
theorem dL_law_279 : decode cL_law 279 = .ok (.iload_n 3, 1) := by decide +kernel
theorem dL_law_280 : decode cL_law 280 = .ok (.iconst 2, 1) := by decide +kernel
theorem dL_law_281 : decode cL_law 281 = .ok (.iadd, 1) := by decide +kernel
theorem dL_law_282 : decode cL_law 282 = .ok (.iaload, 1) := by decide +kernel
theorem dL_law_283 : decode cL_law 283 = .ok (.invokevirtual 40, 3) := by decide +kernel
theorem dL_law_286 : decode cL_law 286 = .ok (.aload_n 2, 1) := by decide +kernel
theorem dL_law_287 : decode cL_law 287 = .ok (.aload_n 0, 1) := by decide +kernel
theorem dL_law_288 : decode cL_law 288 = .ok (.iload_n 3, 1) := by decide +kernel
theorem dL_law_289 : decode cL_law 289 = .ok (.iconst 1, 1) := by decide +kernel
theorem dL_law_290 : decode cL_law 290 = .ok (.iadd, 1) := by decide +kernel
theorem dL_law_291 : decode cL_law 291 = .ok (.iaload, 1) := by decide +kernel
theorem dL_law_292 : decode cL_law 292 = .ok (.aload_n 0, 1) := by decide +kernel
theorem dL_law_293 : decode cL_law 293 = .ok (.iload_n 3, 1) := by decide +kernel
theorem dL_law_294 : decode cL_law 294 = .ok (.iconst 2, 1) := by decide +kernel
theorem dL_law_295 : decode cL_law 295 = .ok (.iadd, 1) := by decide +kernel
theorem dL_law_296 : decode cL_law 296 = .ok (.iaload, 1) := by decide +kernel
theorem dL_law_297 : decode cL_law 297 = .ok (.invokevirtual 43, 3) := by decide +kernel
theorem dL_law_300 : decode cL_law 300 = .ok (.if_icmp .eq 467, 3) := by decide +kernel
theorem dL_law_303 : decode cL_law 303 = .ok (.iconst 0, 1) := by decide +kernel
theorem dL_law_304 : decode cL_law 304 = .ok (.ireturn, 1) := by decide +kernel
theorem dL_law_305 : decode cL_law 305 = .ok (.aload_n 1, 1) := by decide +kernel
theorem dL_law_306 : decode cL_law 306 = .ok (.invokevirtual 44, 3) := by decide +kernel
theorem dL_law_309 : decode cL_law 309 = .ok (.aload_n 2, 1) := by decide +kernel
theorem dL_law_310 : decode cL_law 310 = .ok (.invokevirtual 47, 3) := by decide +kernel
theorem dL_law_313 : decode cL_law 313 = .ok (.if_icmp .eq 454, 3) := by decide +kernel
theorem dL_law_316 : decode cL_law 316 = .ok (.iconst 0, 1) := by decide +kernel
theorem dL_law_317 : decode cL_law 317 = .ok (.ireturn, 1) := by decide +kernel
theorem dL_law_318 : decode cL_law 318 = .ok (.aload_n 1, 1) := by decide +kernel
theorem dL_law_319 : decode cL_law 319 = .ok (.aload_n 0, 1) := by decide +kernel
theorem dL_law_320 : decode cL_law 320 = .ok (.iload_n 3, 1) := by decide +kernel
theorem dL_law_321 : decode cL_law 321 = .ok (.iconst 1, 1) := by decide +kernel
theorem dL_law_322 : decode cL_law 322 = .ok (.iadd, 1) := by decide +kernel
theorem dL_law_323 : decode cL_law 323 = .ok (.iaload, 1) := by decide +kernel
theorem dL_law_324 : decode cL_law 324 = .ok (.aload_n 0, 1) := by decide +kernel
theorem dL_law_325 : decode cL_law 325 = .ok (.iload_n 3, 1) := by decide +kernel
theorem dL_law_326 : decode cL_law 326 = .ok (.iconst 2, 1) := by decide +kernel
theorem dL_law_327 : decode cL_law 327 = .ok (.iadd, 1) := by decide +kernel
theorem dL_law_328 : decode cL_law 328 = .ok (.iaload, 1) := by decide +kernel
theorem dL_law_329 : decode cL_law 329 = .ok (.invokevirtual 48, 3) := by decide +kernel
theorem dL_law_332 : decode cL_law 332 = .ok (.aload_n 2, 1) := by decide +kernel
theorem dL_law_333 : decode cL_law 333 = .ok (.aload_n 0, 1) := by decide +kernel
theorem dL_law_334 : decode cL_law 334 = .ok (.iload_n 3, 1) := by decide +kernel
theorem dL_law_335 : decode cL_law 335 = .ok (.iconst 1, 1) := by decide +kernel
theorem dL_law_336 : decode cL_law 336 = .ok (.iadd, 1) := by decide +kernel
theorem dL_law_337 : decode cL_law 337 = .ok (.iaload, 1) := by decide +kernel
theorem dL_law_338 : decode cL_law 338 = .ok (.aload_n 0, 1) := by decide +kernel
theorem dL_law_339 : decode cL_law 339 = .ok (.iload_n 3, 1) := by decide +kernel
theorem dL_law_340 : decode cL_law 340 = .ok (.iconst 2, 1) := by decide +kernel
theorem dL_law_341 : decode cL_law 341 = .ok (.iadd, 1) := by decide +kernel
theorem dL_law_342 : decode cL_law 342 = .ok (.iaload, 1) := by decide +kernel
theorem dL_law_343 : decode cL_law 343 = .ok (.invokevirtual 51, 3) := by decide +kernel
theorem dL_law_346 : decode cL_law 346 = .ok (.if_icmp .eq 421, 3) := by decide +kernel
theorem dL_law_349 : decode cL_law 349 = .ok (.iconst 0, 1) := by decide +kernel
theorem dL_law_350 : decode cL_law 350 = .ok (.ireturn, 1) := by decide +kernel
theorem dL_law_351 : decode cL_law 351 = .ok (.aload_n 1, 1) := by decide +kernel
theorem dL_law_352 : decode cL_law 352 = .ok (.aload_n 0, 1) := by decide +kernel
theorem dL_law_353 : decode cL_law 353 = .ok (.iload_n 3, 1) := by decide +kernel
theorem dL_law_354 : decode cL_law 354 = .ok (.iconst 1, 1) := by decide +kernel
theorem dL_law_355 : decode cL_law 355 = .ok (.iadd, 1) := by decide +kernel
theorem dL_law_356 : decode cL_law 356 = .ok (.iaload, 1) := by decide +kernel
theorem dL_law_357 : decode cL_law 357 = .ok (.invokevirtual 52, 3) := by decide +kernel
theorem dL_law_360 : decode cL_law 360 = .ok (.aload_n 2, 1) := by decide +kernel
theorem dL_law_361 : decode cL_law 361 = .ok (.aload_n 0, 1) := by decide +kernel
theorem dL_law_362 : decode cL_law 362 = .ok (.iload_n 3, 1) := by decide +kernel
theorem dL_law_363 : decode cL_law 363 = .ok (.iconst 1, 1) := by decide +kernel
theorem dL_law_364 : decode cL_law 364 = .ok (.iadd, 1) := by decide +kernel
theorem dL_law_365 : decode cL_law 365 = .ok (.iaload, 1) := by decide +kernel
theorem dL_law_366 : decode cL_law 366 = .ok (.invokevirtual 55, 3) := by decide +kernel
theorem dL_law_369 : decode cL_law 369 = .ok (.if_icmp .eq 398, 3) := by decide +kernel
theorem dL_law_372 : decode cL_law 372 = .ok (.iconst 0, 1) := by decide +kernel
theorem dL_law_373 : decode cL_law 373 = .ok (.ireturn, 1) := by decide +kernel
theorem dL_law_374 : decode cL_law 374 = .ok (.aload_n 1, 1) := by decide +kernel
theorem dL_law_375 : decode cL_law 375 = .ok (.invokevirtual 56, 3) := by decide +kernel
theorem dL_law_378 : decode cL_law 378 = .ok (.aload_n 2, 1) := by decide +kernel
theorem dL_law_379 : decode cL_law 379 = .ok (.invokevirtual 59, 3) := by decide +kernel
theorem dL_law_382 : decode cL_law 382 = .ok (.if_icmp .eq 385, 3) := by decide +kernel
theorem dL_law_385 : decode cL_law 385 = .ok (.iconst 0, 1) := by decide +kernel
theorem dL_law_386 : decode cL_law 386 = .ok (.ireturn, 1) := by decide +kernel
theorem dL_law_387 : decode cL_law 387 = .ok (.aload_n 1, 1) := by decide +kernel
theorem dL_law_388 : decode cL_law 388 = .ok (.aload_n 0, 1) := by decide +kernel
theorem dL_law_389 : decode cL_law 389 = .ok (.iload_n 3, 1) := by decide +kernel
theorem dL_law_390 : decode cL_law 390 = .ok (.iconst 1, 1) := by decide +kernel
theorem dL_law_391 : decode cL_law 391 = .ok (.iadd, 1) := by decide +kernel
theorem dL_law_392 : decode cL_law 392 = .ok (.iaload, 1) := by decide +kernel
theorem dL_law_393 : decode cL_law 393 = .ok (.aload_n 0, 1) := by decide +kernel
theorem dL_law_394 : decode cL_law 394 = .ok (.iload_n 3, 1) := by decide +kernel
theorem dL_law_395 : decode cL_law 395 = .ok (.iconst 2, 1) := by decide +kernel
theorem dL_law_396 : decode cL_law 396 = .ok (.iadd, 1) := by decide +kernel
theorem dL_law_397 : decode cL_law 397 = .ok (.iaload, 1) := by decide +kernel
theorem dL_law_398 : decode cL_law 398 = .ok (.invokevirtual 60, 3) := by decide +kernel
theorem dL_law_401 : decode cL_law 401 = .ok (.aload_n 2, 1) := by decide +kernel
theorem dL_law_402 : decode cL_law 402 = .ok (.aload_n 0, 1) := by decide +kernel
theorem dL_law_403 : decode cL_law 403 = .ok (.iload_n 3, 1) := by decide +kernel
theorem dL_law_404 : decode cL_law 404 = .ok (.iconst 1, 1) := by decide +kernel
theorem dL_law_405 : decode cL_law 405 = .ok (.iadd, 1) := by decide +kernel
theorem dL_law_406 : decode cL_law 406 = .ok (.iaload, 1) := by decide +kernel
theorem dL_law_407 : decode cL_law 407 = .ok (.aload_n 0, 1) := by decide +kernel
theorem dL_law_408 : decode cL_law 408 = .ok (.iload_n 3, 1) := by decide +kernel
theorem dL_law_409 : decode cL_law 409 = .ok (.iconst 2, 1) := by decide +kernel
theorem dL_law_410 : decode cL_law 410 = .ok (.iadd, 1) := by decide +kernel
theorem dL_law_411 : decode cL_law 411 = .ok (.iaload, 1) := by decide +kernel
theorem dL_law_412 : decode cL_law 412 = .ok (.invokevirtual 63, 3) := by decide +kernel
theorem dL_law_415 : decode cL_law 415 = .ok (.if_icmp .eq 352, 3) := by decide +kernel
theorem dL_law_418 : decode cL_law 418 = .ok (.iconst 0, 1) := by decide +kernel
theorem dL_law_419 : decode cL_law 419 = .ok (.ireturn, 1) := by decide +kernel
theorem dL_law_420 : decode cL_law 420 = .ok (.aload_n 1, 1) := by decide +kernel
theorem dL_law_421 : decode cL_law 421 = .ok (.aload_n 0, 1) := by decide +kernel
theorem dL_law_422 : decode cL_law 422 = .ok (.iload_n 3, 1) := by decide +kernel
theorem dL_law_423 : decode cL_law 423 = .ok (.iconst 1, 1) := by decide +kernel
theorem dL_law_424 : decode cL_law 424 = .ok (.iadd, 1) := by decide +kernel
theorem dL_law_425 : decode cL_law 425 = .ok (.iaload, 1) := by decide +kernel
theorem dL_law_426 : decode cL_law 426 = .ok (.aload_n 0, 1) := by decide +kernel
theorem dL_law_427 : decode cL_law 427 = .ok (.iload_n 3, 1) := by decide +kernel
theorem dL_law_428 : decode cL_law 428 = .ok (.iconst 2, 1) := by decide +kernel
theorem dL_law_429 : decode cL_law 429 = .ok (.iadd, 1) := by decide +kernel
theorem dL_law_430 : decode cL_law 430 = .ok (.iaload, 1) := by decide +kernel
theorem dL_law_431 : decode cL_law 431 = .ok (.invokevirtual 64, 3) := by decide +kernel
theorem dL_law_434 : decode cL_law 434 = .ok (.aload_n 2, 1) := by decide +kernel
theorem dL_law_435 : decode cL_law 435 = .ok (.aload_n 0, 1) := by decide +kernel
theorem dL_law_436 : decode cL_law 436 = .ok (.iload_n 3, 1) := by decide +kernel
theorem dL_law_437 : decode cL_law 437 = .ok (.iconst 1, 1) := by decide +kernel
theorem dL_law_438 : decode cL_law 438 = .ok (.iadd, 1) := by decide +kernel
theorem dL_law_439 : decode cL_law 439 = .ok (.iaload, 1) := by decide +kernel
theorem dL_law_440 : decode cL_law 440 = .ok (.aload_n 0, 1) := by decide +kernel
theorem dL_law_441 : decode cL_law 441 = .ok (.iload_n 3, 1) := by decide +kernel
theorem dL_law_442 : decode cL_law 442 = .ok (.iconst 2, 1) := by decide +kernel
theorem dL_law_443 : decode cL_law 443 = .ok (.iadd, 1) := by decide +kernel
theorem dL_law_444 : decode cL_law 444 = .ok (.iaload, 1) := by decide +kernel
theorem dL_law_445 : decode cL_law 445 = .ok (.invokevirtual 67, 3) := by decide +kernel
theorem dL_law_448 : decode cL_law 448 = .ok (.if_icmp .eq 319, 3) := by decide +kernel
theorem dL_law_451 : decode cL_law 451 = .ok (.iconst 0, 1) := by decide +kernel
theorem dL_law_452 : decode cL_law 452 = .ok (.ireturn, 1) := by decide +kernel
theorem dL_law_453 : decode cL_law 453 = .ok (.aload_n 1, 1) := by decide +kernel
theorem dL_law_454 : decode cL_law 454 = .ok (.aload_n 0, 1) := by decide +kernel
theorem dL_law_455 : decode cL_law 455 = .ok (.iload_n 3, 1) := by decide +kernel
theorem dL_law_456 : decode cL_law 456 = .ok (.iconst 1, 1) := by decide +kernel
theorem dL_law_457 : decode cL_law 457 = .ok (.iadd, 1) := by decide +kernel
theorem dL_law_458 : decode cL_law 458 = .ok (.iaload, 1) := by decide +kernel
theorem dL_law_459 : decode cL_law 459 = .ok (.aload_n 0, 1) := by decide +kernel
theorem dL_law_460 : decode cL_law 460 = .ok (.iload_n 3, 1) := by decide +kernel
theorem dL_law_461 : decode cL_law 461 = .ok (.iconst 2, 1) := by decide +kernel
theorem dL_law_462 : decode cL_law 462 = .ok (.iadd, 1) := by decide +kernel
theorem dL_law_463 : decode cL_law 463 = .ok (.iaload, 1) := by decide +kernel
theorem dL_law_464 : decode cL_law 464 = .ok (.aload_n 0, 1) := by decide +kernel
theorem dL_law_465 : decode cL_law 465 = .ok (.iload_n 3, 1) := by decide +kernel
theorem dL_law_466 : decode cL_law 466 = .ok (.iconst 3, 1) := by decide +kernel
theorem dL_law_467 : decode cL_law 467 = .ok (.iadd, 1) := by decide +kernel
theorem dL_law_468 : decode cL_law 468 = .ok (.iaload, 1) := by decide +kernel
theorem dL_law_469 : decode cL_law 469 = .ok (.invokevirtual 68, 3) := by decide +kernel
theorem dL_law_472 : decode cL_law 472 = .ok (.aload_n 2, 1) := by decide +kernel
theorem dL_law_473 : decode cL_law 473 = .ok (.aload_n 0, 1) := by decide +kernel
theorem dL_law_474 : decode cL_law 474 = .ok (.iload_n 3, 1) := by decide +kernel
theorem dL_law_475 : decode cL_law 475 = .ok (.iconst 1, 1) := by decide +kernel
theorem dL_law_476 : decode cL_law 476 = .ok (.iadd, 1) := by decide +kernel
theorem dL_law_477 : decode cL_law 477 = .ok (.iaload, 1) := by decide +kernel
theorem dL_law_478 : decode cL_law 478 = .ok (.aload_n 0, 1) := by decide +kernel
theorem dL_law_479 : decode cL_law 479 = .ok (.iload_n 3, 1) := by decide +kernel
theorem dL_law_480 : decode cL_law 480 = .ok (.iconst 2, 1) := by decide +kernel
theorem dL_law_481 : decode cL_law 481 = .ok (.iadd, 1) := by decide +kernel
theorem dL_law_482 : decode cL_law 482 = .ok (.iaload, 1) := by decide +kernel
theorem dL_law_483 : decode cL_law 483 = .ok (.aload_n 0, 1) := by decide +kernel
theorem dL_law_484 : decode cL_law 484 = .ok (.iload_n 3, 1) := by decide +kernel
theorem dL_law_485 : decode cL_law 485 = .ok (.iconst 3, 1) := by decide +kernel
theorem dL_law_486 : decode cL_law 486 = .ok (.iadd, 1) := by decide +kernel
theorem dL_law_487 : decode cL_law 487 = .ok (.iaload, 1) := by decide +kernel
theorem dL_law_488 : decode cL_law 488 = .ok (.invokevirtual 72, 3) := by decide +kernel
theorem dL_law_491 : decode cL_law 491 = .ok (.if_icmp .eq 276, 3) := by decide +kernel
theorem dL_law_494 : decode cL_law 494 = .ok (.iconst 0, 1) := by decide +kernel
theorem dL_law_495 : decode cL_law 495 = .ok (.ireturn, 1) := by decide +kernel
theorem dL_law_496 : decode cL_law 496 = .ok (.aload_n 1, 1) := by decide +kernel
theorem dL_law_497 : decode cL_law 497 = .ok (.aload_n 0, 1) := by decide +kernel
theorem dL_law_498 : decode cL_law 498 = .ok (.iload_n 3, 1) := by decide +kernel
theorem dL_law_499 : decode cL_law 499 = .ok (.iconst 1, 1) := by decide +kernel
theorem dL_law_500 : decode cL_law 500 = .ok (.iadd, 1) := by decide +kernel
theorem dL_law_501 : decode cL_law 501 = .ok (.iaload, 1) := by decide +kernel
theorem dL_law_502 : decode cL_law 502 = .ok (.aload_n 0, 1) := by decide +kernel
theorem dL_law_503 : decode cL_law 503 = .ok (.iload_n 3, 1) := by decide +kernel
theorem dL_law_504 : decode cL_law 504 = .ok (.iconst 2, 1) := by decide +kernel
theorem dL_law_505 : decode cL_law 505 = .ok (.iadd, 1) := by decide +kernel
theorem dL_law_506 : decode cL_law 506 = .ok (.iaload, 1) := by decide +kernel
theorem dL_law_507 : decode cL_law 507 = .ok (.aload_n 0, 1) := by decide +kernel
theorem dL_law_508 : decode cL_law 508 = .ok (.iload_n 3, 1) := by decide +kernel
theorem dL_law_509 : decode cL_law 509 = .ok (.iconst 3, 1) := by decide +kernel
theorem dL_law_510 : decode cL_law 510 = .ok (.iadd, 1) := by decide +kernel
theorem dL_law_511 : decode cL_law 511 = .ok (.iaload, 1) := by decide +kernel
theorem dL_law_512 : decode cL_law 512 = .ok (.aload_n 0, 1) := by decide +kernel
theorem dL_law_513 : decode cL_law 513 = .ok (.iload_n 3, 1) := by decide +kernel
theorem dL_law_514 : decode cL_law 514 = .ok (.iconst 4, 1) := by decide +kernel
theorem dL_law_515 : decode cL_law 515 = .ok (.iadd, 1) := by decide +kernel
theorem dL_law_516 : decode cL_law 516 = .ok (.iaload, 1) := by decide +kernel
theorem dL_law_517 : decode cL_law 517 = .ok (.invokevirtual 73, 3) := by decide +kernel
theorem dL_law_520 : decode cL_law 520 = .ok (.aload_n 2, 1) := by decide +kernel
theorem dL_law_521 : decode cL_law 521 = .ok (.aload_n 0, 1) := by decide +kernel
theorem dL_law_522 : decode cL_law 522 = .ok (.iload_n 3, 1) := by decide +kernel
theorem dL_law_523 : decode cL_law 523 = .ok (.iconst 1, 1) := by decide +kernel
theorem dL_law_524 : decode cL_law 524 = .ok (.iadd, 1) := by decide +kernel
theorem dL_law_525 : decode cL_law 525 = .ok (.iaload, 1) := by decide +kernel
theorem dL_law_526 : decode cL_law 526 = .ok (.aload_n 0, 1) := by decide +kernel
theorem dL_law_527 : decode cL_law 527 = .ok (.iload_n 3, 1) := by decide +kernel
theorem dL_law_528 : decode cL_law 528 = .ok (.iconst 2, 1) := by decide +kernel
theorem dL_law_529 : decode cL_law 529 = .ok (.iadd, 1) := by decide +kernel
theorem dL_law_530 : decode cL_law 530 = .ok (.iaload, 1) := by decide +kernel
theorem dL_law_531 : decode cL_law 531 = .ok (.aload_n 0, 1) := by decide +kernel
theorem dL_law_532 : decode cL_law 532 = .ok (.iload_n 3, 1) := by decide +kernel
theorem dL_law_533 : decode cL_law 533 = .ok (.iconst 3, 1) := by decide +kernel
theorem dL_law_534 : decode cL_law 534 = .ok (.iadd, 1) := by decide +kernel
theorem dL_law_535 : decode cL_law 535 = .ok (.iaload, 1) := by decide +kernel
theorem dL_law_536 : decode cL_law 536 = .ok (.aload_n 0, 1) := by decide +kernel
theorem dL_law_537 : decode cL_law 537 = .ok (.iload_n 3, 1) := by decide +kernel
theorem dL_law_538 : decode cL_law 538 = .ok (.iconst 4, 1) := by decide +kernel
theorem dL_law_539 : decode cL_law 539 = .ok (.iadd, 1) := by decide +kernel
theorem dL_law_540 : decode cL_law 540 = .ok (.iaload, 1) := by decide +kernel
theorem dL_law_541 : decode cL_law 541 = .ok (.invokevirtual 77, 3) := by decide +kernel
theorem dL_law_544 : decode cL_law 544 = .ok (.if_icmp .eq 223, 3) := by decide +kernel
theorem dL_law_547 : decode cL_law 547 = .ok (.iconst 0, 1) := by decide +kernel
theorem dL_law_548 : decode cL_law 548 = .ok (.ireturn, 1) := by decide +kernel
theorem dL_law_549 : decode cL_law 549 = .ok (.aload_n 1, 1) := by decide +kernel
theorem dL_law_550 : decode cL_law 550 = .ok (.aload_n 0, 1) := by decide +kernel
theorem dL_law_551 : decode cL_law 551 = .ok (.iload_n 3, 1) := by decide +kernel
theorem dL_law_552 : decode cL_law 552 = .ok (.iconst 1, 1) := by decide +kernel
theorem dL_law_553 : decode cL_law 553 = .ok (.iadd, 1) := by decide +kernel
theorem dL_law_554 : decode cL_law 554 = .ok (.iaload, 1) := by decide +kernel
theorem dL_law_555 : decode cL_law 555 = .ok (.aload_n 0, 1) := by decide +kernel
theorem dL_law_556 : decode cL_law 556 = .ok (.iload_n 3, 1) := by decide +kernel
theorem dL_law_557 : decode cL_law 557 = .ok (.iconst 2, 1) := by decide +kernel
theorem dL_law_558 : decode cL_law 558 = .ok (.iadd, 1) := by decide +kernel
theorem dL_law_559 : decode cL_law 559 = .ok (.iaload, 1) := by decide +kernel
theorem dL_law_560 : decode cL_law 560 = .ok (.aload_n 0, 1) := by decide +kernel
theorem dL_law_561 : decode cL_law 561 = .ok (.iload_n 3, 1) := by decide +kernel
theorem dL_law_562 : decode cL_law 562 = .ok (.iconst 3, 1) := by decide +kernel
theorem dL_law_563 : decode cL_law 563 = .ok (.iadd, 1) := by decide +kernel
theorem dL_law_564 : decode cL_law 564 = .ok (.iaload, 1) := by decide +kernel
theorem dL_law_565 : decode cL_law 565 = .ok (.invokevirtual 78, 3) := by decide +kernel
theorem dL_law_568 : decode cL_law 568 = .ok (.aload_n 2, 1) := by decide +kernel
theorem dL_law_569 : decode cL_law 569 = .ok (.aload_n 0, 1) := by decide +kernel
theorem dL_law_570 : decode cL_law 570 = .ok (.iload_n 3, 1) := by decide +kernel
theorem dL_law_571 : decode cL_law 571 = .ok (.iconst 1, 1) := by decide +kernel
theorem dL_law_572 : decode cL_law 572 = .ok (.iadd, 1) := by decide +kernel
theorem dL_law_573 : decode cL_law 573 = .ok (.iaload, 1) := by decide +kernel
theorem dL_law_574 : decode cL_law 574 = .ok (.aload_n 0, 1) := by decide +kernel
theorem dL_law_575 : decode cL_law 575 = .ok (.iload_n 3, 1) := by decide +kernel
theorem dL_law_576 : decode cL_law 576 = .ok (.iconst 2, 1) := by decide +kernel
theorem dL_law_577 : decode cL_law 577 = .ok (.iadd, 1) := by decide +kernel
theorem dL_law_578 : decode cL_law 578 = .ok (.iaload, 1) := by decide +kernel
theorem dL_law_579 : decode cL_law 579 = .ok (.aload_n 0, 1) := by decide +kernel
theorem dL_law_580 : decode cL_law 580 = .ok (.iload_n 3, 1) := by decide +kernel
theorem dL_law_581 : decode cL_law 581 = .ok (.iconst 3, 1) := by decide +kernel
theorem dL_law_582 : decode cL_law 582 = .ok (.iadd, 1) := by decide +kernel
theorem dL_law_583 : decode cL_law 583 = .ok (.iaload, 1) := by decide +kernel
theorem dL_law_584 : decode cL_law 584 = .ok (.invokevirtual 81, 3) := by decide +kernel
theorem dL_law_587 : decode cL_law 587 = .ok (.if_icmp .eq 180, 3) := by decide +kernel
theorem dL_law_590 : decode cL_law 590 = .ok (.iconst 0, 1) := by decide +kernel
theorem dL_law_591 : decode cL_law 591 = .ok (.ireturn, 1) := by decide +kernel
theorem dL_law_592 : decode cL_law 592 = .ok (.aload_n 1, 1) := by decide +kernel
theorem dL_law_593 : decode cL_law 593 = .ok (.invokevirtual 82, 3) := by decide +kernel
theorem dL_law_596 : decode cL_law 596 = .ok (.aload_n 2, 1) := by decide +kernel
theorem dL_law_597 : decode cL_law 597 = .ok (.invokevirtual 85, 3) := by decide +kernel
theorem dL_law_600 : decode cL_law 600 = .ok (.if_icmp .eq 167, 3) := by decide +kernel
theorem dL_law_603 : decode cL_law 603 = .ok (.iconst 0, 1) := by decide +kernel
theorem dL_law_604 : decode cL_law 604 = .ok (.ireturn, 1) := by decide +kernel
theorem dL_law_605 : decode cL_law 605 = .ok (.aload_n 1, 1) := by decide +kernel
theorem dL_law_606 : decode cL_law 606 = .ok (.aload_n 0, 1) := by decide +kernel
theorem dL_law_607 : decode cL_law 607 = .ok (.iload_n 3, 1) := by decide +kernel
theorem dL_law_608 : decode cL_law 608 = .ok (.iconst 1, 1) := by decide +kernel
theorem dL_law_609 : decode cL_law 609 = .ok (.iadd, 1) := by decide +kernel
theorem dL_law_610 : decode cL_law 610 = .ok (.iaload, 1) := by decide +kernel
theorem dL_law_611 : decode cL_law 611 = .ok (.invokevirtual 86, 3) := by decide +kernel
theorem dL_law_614 : decode cL_law 614 = .ok (.aload_n 2, 1) := by decide +kernel
theorem dL_law_615 : decode cL_law 615 = .ok (.aload_n 0, 1) := by decide +kernel
theorem dL_law_616 : decode cL_law 616 = .ok (.iload_n 3, 1) := by decide +kernel
theorem dL_law_617 : decode cL_law 617 = .ok (.iconst 1, 1) := by decide +kernel
theorem dL_law_618 : decode cL_law 618 = .ok (.iadd, 1) := by decide +kernel
theorem dL_law_619 : decode cL_law 619 = .ok (.iaload, 1) := by decide +kernel
theorem dL_law_620 : decode cL_law 620 = .ok (.invokevirtual 89, 3) := by decide +kernel
theorem dL_law_623 : decode cL_law 623 = .ok (.if_icmp .eq 144, 3) := by decide +kernel
theorem dL_law_626 : decode cL_law 626 = .ok (.iconst 0, 1) := by decide +kernel
theorem dL_law_627 : decode cL_law 627 = .ok (.ireturn, 1) := by decide +kernel
theorem dL_law_628 : decode cL_law 628 = .ok (.aload_n 1, 1) := by decide +kernel
theorem dL_law_629 : decode cL_law 629 = .ok (.aload_n 0, 1) := by decide +kernel
theorem dL_law_630 : decode cL_law 630 = .ok (.iload_n 3, 1) := by decide +kernel
theorem dL_law_631 : decode cL_law 631 = .ok (.iconst 1, 1) := by decide +kernel
theorem dL_law_632 : decode cL_law 632 = .ok (.iadd, 1) := by decide +kernel
theorem dL_law_633 : decode cL_law 633 = .ok (.iaload, 1) := by decide +kernel
theorem dL_law_634 : decode cL_law 634 = .ok (.invokevirtual 90, 3) := by decide +kernel
theorem dL_law_637 : decode cL_law 637 = .ok (.aload_n 2, 1) := by decide +kernel
theorem dL_law_638 : decode cL_law 638 = .ok (.aload_n 0, 1) := by decide +kernel
theorem dL_law_639 : decode cL_law 639 = .ok (.iload_n 3, 1) := by decide +kernel
theorem dL_law_640 : decode cL_law 640 = .ok (.iconst 1, 1) := by decide +kernel
theorem dL_law_641 : decode cL_law 641 = .ok (.iadd, 1) := by decide +kernel
theorem dL_law_642 : decode cL_law 642 = .ok (.iaload, 1) := by decide +kernel
theorem dL_law_643 : decode cL_law 643 = .ok (.invokevirtual 93, 3) := by decide +kernel
theorem dL_law_646 : decode cL_law 646 = .ok (.if_icmp .eq 121, 3) := by decide +kernel
theorem dL_law_649 : decode cL_law 649 = .ok (.iconst 0, 1) := by decide +kernel
theorem dL_law_650 : decode cL_law 650 = .ok (.ireturn, 1) := by decide +kernel
theorem dL_law_651 : decode cL_law 651 = .ok (.aload_n 1, 1) := by decide +kernel
theorem dL_law_652 : decode cL_law 652 = .ok (.aload_n 0, 1) := by decide +kernel
theorem dL_law_653 : decode cL_law 653 = .ok (.iload_n 3, 1) := by decide +kernel
theorem dL_law_654 : decode cL_law 654 = .ok (.iconst 1, 1) := by decide +kernel
theorem dL_law_655 : decode cL_law 655 = .ok (.iadd, 1) := by decide +kernel
theorem dL_law_656 : decode cL_law 656 = .ok (.iaload, 1) := by decide +kernel
theorem dL_law_657 : decode cL_law 657 = .ok (.aload_n 0, 1) := by decide +kernel
theorem dL_law_658 : decode cL_law 658 = .ok (.iload_n 3, 1) := by decide +kernel
theorem dL_law_659 : decode cL_law 659 = .ok (.iconst 2, 1) := by decide +kernel
theorem dL_law_660 : decode cL_law 660 = .ok (.iadd, 1) := by decide +kernel
theorem dL_law_661 : decode cL_law 661 = .ok (.iaload, 1) := by decide +kernel
theorem dL_law_662 : decode cL_law 662 = .ok (.invokevirtual 94, 3) := by decide +kernel
theorem dL_law_665 : decode cL_law 665 = .ok (.aload_n 2, 1) := by decide +kernel
theorem dL_law_666 : decode cL_law 666 = .ok (.aload_n 0, 1) := by decide +kernel
theorem dL_law_667 : decode cL_law 667 = .ok (.iload_n 3, 1) := by decide +kernel
theorem dL_law_668 : decode cL_law 668 = .ok (.iconst 1, 1) := by decide +kernel
theorem dL_law_669 : decode cL_law 669 = .ok (.iadd, 1) := by decide +kernel
theorem dL_law_670 : decode cL_law 670 = .ok (.iaload, 1) := by decide +kernel
theorem dL_law_671 : decode cL_law 671 = .ok (.aload_n 0, 1) := by decide +kernel
theorem dL_law_672 : decode cL_law 672 = .ok (.iload_n 3, 1) := by decide +kernel
theorem dL_law_673 : decode cL_law 673 = .ok (.iconst 2, 1) := by decide +kernel
theorem dL_law_674 : decode cL_law 674 = .ok (.iadd, 1) := by decide +kernel
theorem dL_law_675 : decode cL_law 675 = .ok (.iaload, 1) := by decide +kernel
theorem dL_law_676 : decode cL_law 676 = .ok (.invokevirtual 97, 3) := by decide +kernel
theorem dL_law_679 : decode cL_law 679 = .ok (.if_icmp .eq 88, 3) := by decide +kernel
theorem dL_law_682 : decode cL_law 682 = .ok (.iconst 0, 1) := by decide +kernel
theorem dL_law_683 : decode cL_law 683 = .ok (.ireturn, 1) := by decide +kernel
theorem dL_law_684 : decode cL_law 684 = .ok (.aload_n 1, 1) := by decide +kernel
theorem dL_law_685 : decode cL_law 685 = .ok (.aload_n 0, 1) := by decide +kernel
theorem dL_law_686 : decode cL_law 686 = .ok (.iload_n 3, 1) := by decide +kernel
theorem dL_law_687 : decode cL_law 687 = .ok (.iconst 1, 1) := by decide +kernel
theorem dL_law_688 : decode cL_law 688 = .ok (.iadd, 1) := by decide +kernel
theorem dL_law_689 : decode cL_law 689 = .ok (.iaload, 1) := by decide +kernel
theorem dL_law_690 : decode cL_law 690 = .ok (.invokevirtual 98, 3) := by decide +kernel
theorem dL_law_693 : decode cL_law 693 = .ok (.aload_n 2, 1) := by decide +kernel
theorem dL_law_694 : decode cL_law 694 = .ok (.aload_n 0, 1) := by decide +kernel
theorem dL_law_695 : decode cL_law 695 = .ok (.iload_n 3, 1) := by decide +kernel
theorem dL_law_696 : decode cL_law 696 = .ok (.iconst 1, 1) := by decide +kernel
theorem dL_law_697 : decode cL_law 697 = .ok (.iadd, 1) := by decide +kernel
theorem dL_law_698 : decode cL_law 698 = .ok (.iaload, 1) := by decide +kernel
theorem dL_law_699 : decode cL_law 699 = .ok (.invokevirtual 101, 3) := by decide +kernel
theorem dL_law_702 : decode cL_law 702 = .ok (.if_icmp .eq 65, 3) := by decide +kernel
theorem dL_law_705 : decode cL_law 705 = .ok (.iconst 0, 1) := by decide +kernel
theorem dL_law_706 : decode cL_law 706 = .ok (.ireturn, 1) := by decide +kernel
theorem dL_law_707 : decode cL_law 707 = .ok (.aload_n 1, 1) := by decide +kernel
theorem dL_law_708 : decode cL_law 708 = .ok (.aload_n 0, 1) := by decide +kernel
theorem dL_law_709 : decode cL_law 709 = .ok (.iload_n 3, 1) := by decide +kernel
theorem dL_law_710 : decode cL_law 710 = .ok (.iconst 1, 1) := by decide +kernel
theorem dL_law_711 : decode cL_law 711 = .ok (.iadd, 1) := by decide +kernel
theorem dL_law_712 : decode cL_law 712 = .ok (.iaload, 1) := by decide +kernel
theorem dL_law_713 : decode cL_law 713 = .ok (.invokevirtual 102, 3) := by decide +kernel
theorem dL_law_716 : decode cL_law 716 = .ok (.aload_n 2, 1) := by decide +kernel
theorem dL_law_717 : decode cL_law 717 = .ok (.aload_n 0, 1) := by decide +kernel
theorem dL_law_718 : decode cL_law 718 = .ok (.iload_n 3, 1) := by decide +kernel
theorem dL_law_719 : decode cL_law 719 = .ok (.iconst 1, 1) := by decide +kernel
theorem dL_law_720 : decode cL_law 720 = .ok (.iadd, 1) := by decide +kernel
theorem dL_law_721 : decode cL_law 721 = .ok (.iaload, 1) := by decide +kernel
theorem dL_law_722 : decode cL_law 722 = .ok (.invokevirtual 105, 3) := by decide +kernel
theorem dL_law_725 : decode cL_law 725 = .ok (.if_icmp .eq 42, 3) := by decide +kernel
theorem dL_law_728 : decode cL_law 728 = .ok (.iconst 0, 1) := by decide +kernel
theorem dL_law_729 : decode cL_law 729 = .ok (.ireturn, 1) := by decide +kernel
theorem dL_law_730 : decode cL_law 730 = .ok (.aload_n 1, 1) := by decide +kernel
theorem dL_law_731 : decode cL_law 731 = .ok (.aload_n 0, 1) := by decide +kernel
theorem dL_law_732 : decode cL_law 732 = .ok (.iload_n 3, 1) := by decide +kernel
theorem dL_law_733 : decode cL_law 733 = .ok (.iconst 1, 1) := by decide +kernel
theorem dL_law_734 : decode cL_law 734 = .ok (.iadd, 1) := by decide +kernel
theorem dL_law_735 : decode cL_law 735 = .ok (.iaload, 1) := by decide +kernel
theorem dL_law_736 : decode cL_law 736 = .ok (.invokevirtual 106, 3) := by decide +kernel
theorem dL_law_739 : decode cL_law 739 = .ok (.aload_n 2, 1) := by decide +kernel
theorem dL_law_740 : decode cL_law 740 = .ok (.aload_n 0, 1) := by decide +kernel
theorem dL_law_741 : decode cL_law 741 = .ok (.iload_n 3, 1) := by decide +kernel
theorem dL_law_742 : decode cL_law 742 = .ok (.iconst 1, 1) := by decide +kernel
theorem dL_law_743 : decode cL_law 743 = .ok (.iadd, 1) := by decide +kernel
theorem dL_law_744 : decode cL_law 744 = .ok (.iaload, 1) := by decide +kernel
theorem dL_law_745 : decode cL_law 745 = .ok (.invokevirtual 109, 3) := by decide +kernel
theorem dL_law_748 : decode cL_law 748 = .ok (.if_icmp .eq 19, 3) := by decide +kernel
theorem dL_law_751 : decode cL_law 751 = .ok (.iconst 0, 1) := by decide +kernel
theorem dL_law_752 : decode cL_law 752 = .ok (.ireturn, 1) := by decide +kernel
theorem dL_law_753 : decode cL_law 753 = .ok (.aload_n 1, 1) := by decide +kernel
theorem dL_law_754 : decode cL_law 754 = .ok (.invokevirtual 110, 3) := by decide +kernel
theorem dL_law_757 : decode cL_law 757 = .ok (.aload_n 2, 1) := by decide +kernel
theorem dL_law_758 : decode cL_law 758 = .ok (.invokevirtual 114, 3) := by decide +kernel
theorem dL_law_761 : decode cL_law 761 = .ok (.lcmp, 1) := by decide +kernel
theorem dL_law_762 : decode cL_law 762 = .ok (.ifCond .eq 5, 3) := by decide +kernel
theorem dL_law_765 : decode cL_law 765 = .ok (.iconst 0, 1) := by decide +kernel
theorem dL_law_766 : decode cL_law 766 = .ok (.ireturn, 1) := by decide +kernel
theorem dL_law_767 : decode cL_law 767 = .ok (.iinc 3 5, 3) := by decide +kernel
theorem dL_law_770 : decode cL_law 770 = .ok (.goto (-752), 3) := by decide +kernel
theorem dL_law_773 : decode cL_law 773 = .ok (.iconst 1, 1) := by decide +kernel
theorem dL_law_774 : decode cL_law 774 = .ok (.ireturn, 1) := by decide +kernel
end
section
theorem dX0_init_0 : decode cX0_init 0 = .ok (.aload_n 0, 1) := by decide +kernel
theorem dX0_init_1 : decode cX0_init 1 = .ok (.invokespecial 3, 3) := by decide +kernel
theorem dX0_init_4 : decode cX0_init 4 = .ok (.aload_n 0, 1) := by decide +kernel
theorem dX0_init_5 : decode cX0_init 5 = .ok (.bipush 8, 2) := by decide +kernel
theorem dX0_init_7 : decode cX0_init 7 = .ok (.newarray .int, 2) := by decide +kernel
theorem dX0_init_9 : decode cX0_init 9 = .ok (.putfield 9, 3) := by decide +kernel
theorem dX0_init_12 : decode cX0_init 12 = .ok (.aload_n 0, 1) := by decide +kernel
theorem dX0_init_13 : decode cX0_init 13 = .ok (.new 15, 3) := by decide +kernel
theorem dX0_init_16 : decode cX0_init 16 = .ok (.dup, 1) := by decide +kernel
theorem dX0_init_17 : decode cX0_init 17 = .ok (.aload_n 1, 1) := by decide +kernel
theorem dX0_init_18 : decode cX0_init 18 = .ok (.invokespecial 17, 3) := by decide +kernel
theorem dX0_init_21 : decode cX0_init 21 = .ok (.putfield 20, 3) := by decide +kernel
theorem dX0_init_24 : decode cX0_init 24 = .ok (.return_, 1) := by decide +kernel
theorem dX0_start_0 : decode cX0_start 0 = .ok (.aload_n 0, 1) := by decide +kernel
theorem dX0_start_1 : decode cX0_start 1 = .ok (.getfield 20, 3) := by decide +kernel
theorem dX0_start_4 : decode cX0_start 4 = .ok (.aload_n 1, 1) := by decide +kernel
theorem dX0_start_5 : decode cX0_start 5 = .ok (.invokevirtual 24, 3) := by decide +kernel
theorem dX0_start_8 : decode cX0_start 8 = .ok (.aload_n 0, 1) := by decide +kernel
theorem dX0_start_9 : decode cX0_start 9 = .ok (.iconst 0, 1) := by decide +kernel
theorem dX0_start_10 : decode cX0_start 10 = .ok (.putfield 28, 3) := by decide +kernel
theorem dX0_start_13 : decode cX0_start 13 = .ok (.aload_n 0, 1) := by decide +kernel
theorem dX0_start_14 : decode cX0_start 14 = .ok (.iconst 0, 1) := by decide +kernel
theorem dX0_start_15 : decode cX0_start 15 = .ok (.putfield 32, 3) := by decide +kernel
theorem dX0_start_18 : decode cX0_start 18 = .ok (.aload_n 0, 1) := by decide +kernel
theorem dX0_start_19 : decode cX0_start 19 = .ok (.iconst 0, 1) := by decide +kernel
theorem dX0_start_20 : decode cX0_start 20 = .ok (.putfield 35, 3) := by decide +kernel
theorem dX0_start_23 : decode cX0_start 23 = .ok (.return_, 1) := by decide +kernel
theorem dX0_passGust_0 : decode cX0_passGust 0 = .ok (.aload_n 0, 1) := by decide +kernel
theorem dX0_passGust_1 : decode cX0_passGust 1 = .ok (.aload_n 0, 1) := by decide +kernel
theorem dX0_passGust_2 : decode cX0_passGust 2 = .ok (.getfield 20, 3) := by decide +kernel
theorem dX0_passGust_5 : decode cX0_passGust 5 = .ok (.iload_n 1, 1) := by decide +kernel
theorem dX0_passGust_6 : decode cX0_passGust 6 = .ok (.iload_n 2, 1) := by decide +kernel
theorem dX0_passGust_7 : decode cX0_passGust 7 = .ok (.invokevirtual 38, 3) := by decide +kernel
theorem dX0_passGust_10 : decode cX0_passGust 10 = .ok (.invokevirtual 42, 3) := by decide +kernel
theorem dX0_passGust_13 : decode cX0_passGust 13 = .ok (.return_, 1) := by decide +kernel
theorem dX0_passCalms_0 : decode cX0_passCalms 0 = .ok (.iconst 0, 1) := by decide +kernel
theorem dX0_passCalms_1 : decode cX0_passCalms 1 = .ok (.istore_n 2, 1) := by decide +kernel
theorem dX0_passCalms_2 : decode cX0_passCalms 2 = .ok (.iload_n 2, 1) := by decide +kernel
theorem dX0_passCalms_3 : decode cX0_passCalms 3 = .ok (.iload_n 1, 1) := by decide +kernel
theorem dX0_passCalms_4 : decode cX0_passCalms 4 = .ok (.if_icmp .ge 40, 3) := by decide +kernel
theorem dX0_passCalms_7 : decode cX0_passCalms 7 = .ok (.aload_n 0, 1) := by decide +kernel
theorem dX0_passCalms_8 : decode cX0_passCalms 8 = .ok (.getfield 20, 3) := by decide +kernel
theorem dX0_passCalms_11 : decode cX0_passCalms 11 = .ok (.getfield 46, 3) := by decide +kernel
theorem dX0_passCalms_14 : decode cX0_passCalms 14 = .ok (.ifCond .le 30, 3) := by decide +kernel
theorem dX0_passCalms_17 : decode cX0_passCalms 17 = .ok (.aload_n 0, 1) := by decide +kernel
theorem dX0_passCalms_18 : decode cX0_passCalms 18 = .ok (.dup, 1) := by decide +kernel
theorem dX0_passCalms_19 : decode cX0_passCalms 19 = .ok (.getfield 28, 3) := by decide +kernel
theorem dX0_passCalms_22 : decode cX0_passCalms 22 = .ok (.iconst 1, 1) := by decide +kernel
theorem dX0_passCalms_23 : decode cX0_passCalms 23 = .ok (.iadd, 1) := by decide +kernel
theorem dX0_passCalms_24 : decode cX0_passCalms 24 = .ok (.putfield 28, 3) := by decide +kernel
theorem dX0_passCalms_27 : decode cX0_passCalms 27 = .ok (.aload_n 0, 1) := by decide +kernel
theorem dX0_passCalms_28 : decode cX0_passCalms 28 = .ok (.aload_n 0, 1) := by decide +kernel
theorem dX0_passCalms_29 : decode cX0_passCalms 29 = .ok (.getfield 20, 3) := by decide +kernel
theorem dX0_passCalms_32 : decode cX0_passCalms 32 = .ok (.invokevirtual 49, 3) := by decide +kernel
theorem dX0_passCalms_35 : decode cX0_passCalms 35 = .ok (.invokevirtual 42, 3) := by decide +kernel
theorem dX0_passCalms_38 : decode cX0_passCalms 38 = .ok (.iinc 2 1, 3) := by decide +kernel
theorem dX0_passCalms_41 : decode cX0_passCalms 41 = .ok (.goto (-39), 3) := by decide +kernel
theorem dX0_passCalms_44 : decode cX0_passCalms 44 = .ok (.return_, 1) := by decide +kernel
theorem dX0_note_0 : decode cX0_note 0 = .ok (.aload_n 0, 1) := by decide +kernel
theorem dX0_note_1 : decode cX0_note 1 = .ok (.getfield 20, 3) := by decide +kernel
theorem dX0_note_4 : decode cX0_note 4 = .ok (.getfield 53, 3) := by decide +kernel
theorem dX0_note_7 : decode cX0_note 7 = .ok (.iload_n 1, 1) := by decide +kernel
theorem dX0_note_8 : decode cX0_note 8 = .ok (.invokevirtual 57, 3) := by decide +kernel
theorem dX0_note_11 : decode cX0_note 11 = .ok (.ifCond .eq 33, 3) := by decide +kernel
theorem dX0_note_14 : decode cX0_note 14 = .ok (.aload_n 0, 1) := by decide +kernel
theorem dX0_note_15 : decode cX0_note 15 = .ok (.iload_n 1, 1) := by decide +kernel
theorem dX0_note_16 : decode cX0_note 16 = .ok (.invokevirtual 63, 3) := by decide +kernel
theorem dX0_note_19 : decode cX0_note 19 = .ok (.ifCond .ne 25, 3) := by decide +kernel
theorem dX0_note_22 : decode cX0_note 22 = .ok (.aload_n 0, 1) := by decide +kernel
theorem dX0_note_23 : decode cX0_note 23 = .ok (.dup, 1) := by decide +kernel
theorem dX0_note_24 : decode cX0_note 24 = .ok (.getfield 32, 3) := by decide +kernel
theorem dX0_note_27 : decode cX0_note 27 = .ok (.iconst 1, 1) := by decide +kernel
theorem dX0_note_28 : decode cX0_note 28 = .ok (.iload_n 1, 1) := by decide +kernel
theorem dX0_note_29 : decode cX0_note 29 = .ok (.ishl, 1) := by decide +kernel
theorem dX0_note_30 : decode cX0_note 30 = .ok (.ior, 1) := by decide +kernel
theorem dX0_note_31 : decode cX0_note 31 = .ok (.putfield 32, 3) := by decide +kernel
theorem dX0_note_34 : decode cX0_note 34 = .ok (.aload_n 0, 1) := by decide +kernel
theorem dX0_note_35 : decode cX0_note 35 = .ok (.getfield 9, 3) := by decide +kernel
theorem dX0_note_38 : decode cX0_note 38 = .ok (.iload_n 1, 1) := by decide +kernel
theorem dX0_note_39 : decode cX0_note 39 = .ok (.aload_n 0, 1) := by decide +kernel
theorem dX0_note_40 : decode cX0_note 40 = .ok (.getfield 28, 3) := by decide +kernel
theorem dX0_note_43 : decode cX0_note 43 = .ok (.iastore, 1) := by decide +kernel
theorem dX0_note_44 : decode cX0_note 44 = .ok (.aload_n 0, 1) := by decide +kernel
theorem dX0_note_45 : decode cX0_note 45 = .ok (.aload_n 0, 1) := by decide +kernel
theorem dX0_note_46 : decode cX0_note 46 = .ok (.getfield 35, 3) := by decide +kernel
theorem dX0_note_49 : decode cX0_note 49 = .ok (.aload_n 0, 1) := by decide +kernel
theorem dX0_note_50 : decode cX0_note 50 = .ok (.getfield 20, 3) := by decide +kernel
theorem dX0_note_53 : decode cX0_note 53 = .ok (.invokevirtual 66, 3) := by decide +kernel
theorem dX0_note_56 : decode cX0_note 56 = .ok (.invokestatic 69, 3) := by decide +kernel
theorem dX0_note_59 : decode cX0_note 59 = .ok (.putfield 35, 3) := by decide +kernel
theorem dX0_note_62 : decode cX0_note 62 = .ok (.return_, 1) := by decide +kernel
theorem dX0_hasStruck_0 : decode cX0_hasStruck 0 = .ok (.aload_n 0, 1) := by decide +kernel
theorem dX0_hasStruck_1 : decode cX0_hasStruck 1 = .ok (.getfield 32, 3) := by decide +kernel
theorem dX0_hasStruck_4 : decode cX0_hasStruck 4 = .ok (.iconst 1, 1) := by decide +kernel
theorem dX0_hasStruck_5 : decode cX0_hasStruck 5 = .ok (.iload_n 1, 1) := by decide +kernel
theorem dX0_hasStruck_6 : decode cX0_hasStruck 6 = .ok (.ishl, 1) := by decide +kernel
theorem dX0_hasStruck_7 : decode cX0_hasStruck 7 = .ok (.iand, 1) := by decide +kernel
theorem dX0_hasStruck_8 : decode cX0_hasStruck 8 = .ok (.ifCond .eq 7, 3) := by decide +kernel
theorem dX0_hasStruck_11 : decode cX0_hasStruck 11 = .ok (.iconst 1, 1) := by decide +kernel
theorem dX0_hasStruck_12 : decode cX0_hasStruck 12 = .ok (.goto 4, 3) := by decide +kernel
theorem dX0_hasStruck_15 : decode cX0_hasStruck 15 = .ok (.iconst 0, 1) := by decide +kernel
theorem dX0_hasStruck_16 : decode cX0_hasStruck 16 = .ok (.ireturn, 1) := by decide +kernel
theorem dX0_hasStruckWithin_0 : decode cX0_hasStruckWithin 0 = .ok (.aload_n 0, 1) := by decide +kernel
theorem dX0_hasStruckWithin_1 : decode cX0_hasStruckWithin 1 = .ok (.iload_n 1, 1) := by decide +kernel
theorem dX0_hasStruckWithin_2 : decode cX0_hasStruckWithin 2 = .ok (.invokevirtual 63, 3) := by decide +kernel
theorem dX0_hasStruckWithin_5 : decode cX0_hasStruckWithin 5 = .ok (.ifCond .eq 17, 3) := by decide +kernel
theorem dX0_hasStruckWithin_8 : decode cX0_hasStruckWithin 8 = .ok (.aload_n 0, 1) := by decide +kernel
theorem dX0_hasStruckWithin_9 : decode cX0_hasStruckWithin 9 = .ok (.getfield 9, 3) := by decide +kernel
theorem dX0_hasStruckWithin_12 : decode cX0_hasStruckWithin 12 = .ok (.iload_n 1, 1) := by decide +kernel
theorem dX0_hasStruckWithin_13 : decode cX0_hasStruckWithin 13 = .ok (.iaload, 1) := by decide +kernel
theorem dX0_hasStruckWithin_14 : decode cX0_hasStruckWithin 14 = .ok (.iload_n 2, 1) := by decide +kernel
theorem dX0_hasStruckWithin_15 : decode cX0_hasStruckWithin 15 = .ok (.if_icmp .gt 7, 3) := by decide +kernel
theorem dX0_hasStruckWithin_18 : decode cX0_hasStruckWithin 18 = .ok (.iconst 1, 1) := by decide +kernel
theorem dX0_hasStruckWithin_19 : decode cX0_hasStruckWithin 19 = .ok (.goto 4, 3) := by decide +kernel
theorem dX0_hasStruckWithin_22 : decode cX0_hasStruckWithin 22 = .ok (.iconst 0, 1) := by decide +kernel
theorem dX0_hasStruckWithin_23 : decode cX0_hasStruckWithin 23 = .ok (.ireturn, 1) := by decide +kernel
theorem dX0_struckCount_0 : decode cX0_struckCount 0 = .ok (.aload_n 0, 1) := by decide +kernel
theorem dX0_struckCount_1 : decode cX0_struckCount 1 = .ok (.getfield 32, 3) := by decide +kernel
theorem dX0_struckCount_4 : decode cX0_struckCount 4 = .ok (.invokestatic 74, 3) := by decide +kernel
theorem dX0_struckCount_7 : decode cX0_struckCount 7 = .ok (.ireturn, 1) := by decide +kernel
theorem dX0_mildness_0 : decode cX0_mildness 0 = .ok (.aload_n 0, 1) := by decide +kernel
theorem dX0_mildness_1 : decode cX0_mildness 1 = .ok (.getfield 32, 3) := by decide +kernel
theorem dX0_mildness_4 : decode cX0_mildness 4 = .ok (.ifCond .ne 9, 3) := by decide +kernel
theorem dX0_mildness_7 : decode cX0_mildness 7 = .ok (.sipush (-1000), 3) := by decide +kernel
theorem dX0_mildness_10 : decode cX0_mildness 10 = .ok (.goto 8, 3) := by decide +kernel
theorem dX0_mildness_13 : decode cX0_mildness 13 = .ok (.aload_n 0, 1) := by decide +kernel
theorem dX0_mildness_14 : decode cX0_mildness 14 = .ok (.getfield 35, 3) := by decide +kernel
theorem dX0_mildness_17 : decode cX0_mildness 17 = .ok (.ineg, 1) := by decide +kernel
theorem dX0_mildness_18 : decode cX0_mildness 18 = .ok (.ireturn, 1) := by decide +kernel
theorem dX0_calmsToStill_0 : decode cX0_calmsToStill 0 = .ok (.aload_n 0, 1) := by decide +kernel
theorem dX0_calmsToStill_1 : decode cX0_calmsToStill 1 = .ok (.aload_n 1, 1) := by decide +kernel
theorem dX0_calmsToStill_2 : decode cX0_calmsToStill 2 = .ok (.invokevirtual 80, 3) := by decide +kernel
theorem dX0_calmsToStill_5 : decode cX0_calmsToStill 5 = .ok (.iconst 0, 1) := by decide +kernel
theorem dX0_calmsToStill_6 : decode cX0_calmsToStill 6 = .ok (.istore_n 2, 1) := by decide +kernel
theorem dX0_calmsToStill_7 : decode cX0_calmsToStill 7 = .ok (.iload_n 2, 1) := by decide +kernel
theorem dX0_calmsToStill_8 : decode cX0_calmsToStill 8 = .ok (.bipush 60, 2) := by decide +kernel
theorem dX0_calmsToStill_10 : decode cX0_calmsToStill 10 = .ok (.if_icmp .gt 29, 3) := by decide +kernel
theorem dX0_calmsToStill_13 : decode cX0_calmsToStill 13 = .ok (.aload_n 0, 1) := by decide +kernel
theorem dX0_calmsToStill_14 : decode cX0_calmsToStill 14 = .ok (.getfield 20, 3) := by decide +kernel
theorem dX0_calmsToStill_17 : decode cX0_calmsToStill 17 = .ok (.invokevirtual 83, 3) := by decide +kernel
theorem dX0_calmsToStill_20 : decode cX0_calmsToStill 20 = .ok (.ifCond .eq 5, 3) := by decide +kernel
theorem dX0_calmsToStill_23 : decode cX0_calmsToStill 23 = .ok (.iload_n 2, 1) := by decide +kernel
theorem dX0_calmsToStill_24 : decode cX0_calmsToStill 24 = .ok (.ireturn, 1) := by decide +kernel
theorem dX0_calmsToStill_25 : decode cX0_calmsToStill 25 = .ok (.aload_n 0, 1) := by decide +kernel
theorem dX0_calmsToStill_26 : decode cX0_calmsToStill 26 = .ok (.getfield 20, 3) := by decide +kernel
theorem dX0_calmsToStill_29 : decode cX0_calmsToStill 29 = .ok (.invokevirtual 49, 3) := by decide +kernel
theorem dX0_calmsToStill_32 : decode cX0_calmsToStill 32 = .ok (.pop, 1) := by decide +kernel
theorem dX0_calmsToStill_33 : decode cX0_calmsToStill 33 = .ok (.iinc 2 1, 3) := by decide +kernel
theorem dX0_calmsToStill_36 : decode cX0_calmsToStill 36 = .ok (.goto (-29), 3) := by decide +kernel
theorem dX0_calmsToStill_39 : decode cX0_calmsToStill 39 = .ok (.bipush (-9), 2) := by decide +kernel
theorem dX0_calmsToStill_41 : decode cX0_calmsToStill 41 = .ok (.ireturn, 1) := by decide +kernel
end
section
theorem dX1_init_0 : decode cX1_init 0 = .ok (.aload_n 0, 1) := by decide +kernel
theorem dX1_init_1 : decode cX1_init 1 = .ok (.invokespecial 3, 3) := by decide +kernel
theorem dX1_init_4 : decode cX1_init 4 = .ok (.aload_n 0, 1) := by decide +kernel
theorem dX1_init_5 : decode cX1_init 5 = .ok (.bipush 8, 2) := by decide +kernel
theorem dX1_init_7 : decode cX1_init 7 = .ok (.newarray .int, 2) := by decide +kernel
theorem dX1_init_9 : decode cX1_init 9 = .ok (.putfield 9, 3) := by decide +kernel
theorem dX1_init_12 : decode cX1_init 12 = .ok (.aload_n 0, 1) := by decide +kernel
theorem dX1_init_13 : decode cX1_init 13 = .ok (.bipush 8, 2) := by decide +kernel
theorem dX1_init_15 : decode cX1_init 15 = .ok (.newarray .int, 2) := by decide +kernel
theorem dX1_init_17 : decode cX1_init 17 = .ok (.putfield 15, 3) := by decide +kernel
theorem dX1_init_20 : decode cX1_init 20 = .ok (.aload_n 0, 1) := by decide +kernel
theorem dX1_init_21 : decode cX1_init 21 = .ok (.aload_n 1, 1) := by decide +kernel
theorem dX1_init_22 : decode cX1_init 22 = .ok (.putfield 18, 3) := by decide +kernel
theorem dX1_init_25 : decode cX1_init 25 = .ok (.return_, 1) := by decide +kernel
theorem dX1_start_0 : decode cX1_start 0 = .ok (.aload_n 0, 1) := by decide +kernel
theorem dX1_start_1 : decode cX1_start 1 = .ok (.iconst 0, 1) := by decide +kernel
theorem dX1_start_2 : decode cX1_start 2 = .ok (.putfield 22, 3) := by decide +kernel
theorem dX1_start_5 : decode cX1_start 5 = .ok (.aload_n 0, 1) := by decide +kernel
theorem dX1_start_6 : decode cX1_start 6 = .ok (.iconst 0, 1) := by decide +kernel
theorem dX1_start_7 : decode cX1_start 7 = .ok (.putfield 26, 3) := by decide +kernel
theorem dX1_start_10 : decode cX1_start 10 = .ok (.aload_n 0, 1) := by decide +kernel
theorem dX1_start_11 : decode cX1_start 11 = .ok (.iconst 0, 1) := by decide +kernel
theorem dX1_start_12 : decode cX1_start 12 = .ok (.putfield 29, 3) := by decide +kernel
theorem dX1_start_15 : decode cX1_start 15 = .ok (.iconst 0, 1) := by decide +kernel
theorem dX1_start_16 : decode cX1_start 16 = .ok (.istore_n 1, 1) := by decide +kernel
theorem dX1_start_17 : decode cX1_start 17 = .ok (.iload_n 1, 1) := by decide +kernel
theorem dX1_start_18 : decode cX1_start 18 = .ok (.bipush 8, 2) := by decide +kernel
theorem dX1_start_20 : decode cX1_start 20 = .ok (.if_icmp .ge 23, 3) := by decide +kernel
theorem dX1_start_23 : decode cX1_start 23 = .ok (.aload_n 0, 1) := by decide +kernel
theorem dX1_start_24 : decode cX1_start 24 = .ok (.getfield 9, 3) := by decide +kernel
theorem dX1_start_27 : decode cX1_start 27 = .ok (.iload_n 1, 1) := by decide +kernel
theorem dX1_start_28 : decode cX1_start 28 = .ok (.iload_n 1, 1) := by decide +kernel
theorem dX1_start_29 : decode cX1_start 29 = .ok (.iastore, 1) := by decide +kernel
theorem dX1_start_30 : decode cX1_start 30 = .ok (.aload_n 0, 1) := by decide +kernel
theorem dX1_start_31 : decode cX1_start 31 = .ok (.getfield 15, 3) := by decide +kernel
theorem dX1_start_34 : decode cX1_start 34 = .ok (.iload_n 1, 1) := by decide +kernel
theorem dX1_start_35 : decode cX1_start 35 = .ok (.iconst 0, 1) := by decide +kernel
theorem dX1_start_36 : decode cX1_start 36 = .ok (.iastore, 1) := by decide +kernel
theorem dX1_start_37 : decode cX1_start 37 = .ok (.iinc 1 1, 3) := by decide +kernel
theorem dX1_start_40 : decode cX1_start 40 = .ok (.goto (-23), 3) := by decide +kernel
theorem dX1_start_43 : decode cX1_start 43 = .ok (.return_, 1) := by decide +kernel
theorem dX1_copy_0 : decode cX1_copy 0 = .ok (.aload_n 0, 1) := by decide +kernel
theorem dX1_copy_1 : decode cX1_copy 1 = .ok (.aload_n 1, 1) := by decide +kernel
theorem dX1_copy_2 : decode cX1_copy 2 = .ok (.getfield 22, 3) := by decide +kernel
theorem dX1_copy_5 : decode cX1_copy 5 = .ok (.putfield 22, 3) := by decide +kernel
theorem dX1_copy_8 : decode cX1_copy 8 = .ok (.aload_n 0, 1) := by decide +kernel
theorem dX1_copy_9 : decode cX1_copy 9 = .ok (.aload_n 1, 1) := by decide +kernel
theorem dX1_copy_10 : decode cX1_copy 10 = .ok (.getfield 26, 3) := by decide +kernel
theorem dX1_copy_13 : decode cX1_copy 13 = .ok (.putfield 26, 3) := by decide +kernel
theorem dX1_copy_16 : decode cX1_copy 16 = .ok (.aload_n 0, 1) := by decide +kernel
theorem dX1_copy_17 : decode cX1_copy 17 = .ok (.aload_n 1, 1) := by decide +kernel
theorem dX1_copy_18 : decode cX1_copy 18 = .ok (.getfield 29, 3) := by decide +kernel
theorem dX1_copy_21 : decode cX1_copy 21 = .ok (.putfield 29, 3) := by decide +kernel
theorem dX1_copy_24 : decode cX1_copy 24 = .ok (.iconst 0, 1) := by decide +kernel
theorem dX1_copy_25 : decode cX1_copy 25 = .ok (.istore_n 2, 1) := by decide +kernel
theorem dX1_copy_26 : decode cX1_copy 26 = .ok (.iload_n 2, 1) := by decide +kernel
theorem dX1_copy_27 : decode cX1_copy 27 = .ok (.bipush 8, 2) := by decide +kernel
theorem dX1_copy_29 : decode cX1_copy 29 = .ok (.if_icmp .ge 33, 3) := by decide +kernel
theorem dX1_copy_32 : decode cX1_copy 32 = .ok (.aload_n 0, 1) := by decide +kernel
theorem dX1_copy_33 : decode cX1_copy 33 = .ok (.getfield 9, 3) := by decide +kernel
theorem dX1_copy_36 : decode cX1_copy 36 = .ok (.iload_n 2, 1) := by decide +kernel
theorem dX1_copy_37 : decode cX1_copy 37 = .ok (.aload_n 1, 1) := by decide +kernel
theorem dX1_copy_38 : decode cX1_copy 38 = .ok (.getfield 9, 3) := by decide +kernel
theorem dX1_copy_41 : decode cX1_copy 41 = .ok (.iload_n 2, 1) := by decide +kernel
theorem dX1_copy_42 : decode cX1_copy 42 = .ok (.iaload, 1) := by decide +kernel
theorem dX1_copy_43 : decode cX1_copy 43 = .ok (.iastore, 1) := by decide +kernel
theorem dX1_copy_44 : decode cX1_copy 44 = .ok (.aload_n 0, 1) := by decide +kernel
theorem dX1_copy_45 : decode cX1_copy 45 = .ok (.getfield 15, 3) := by decide +kernel
theorem dX1_copy_48 : decode cX1_copy 48 = .ok (.iload_n 2, 1) := by decide +kernel
theorem dX1_copy_49 : decode cX1_copy 49 = .ok (.aload_n 1, 1) := by decide +kernel
theorem dX1_copy_50 : decode cX1_copy 50 = .ok (.getfield 15, 3) := by decide +kernel
theorem dX1_copy_53 : decode cX1_copy 53 = .ok (.iload_n 2, 1) := by decide +kernel
theorem dX1_copy_54 : decode cX1_copy 54 = .ok (.iaload, 1) := by decide +kernel
theorem dX1_copy_55 : decode cX1_copy 55 = .ok (.iastore, 1) := by decide +kernel
theorem dX1_copy_56 : decode cX1_copy 56 = .ok (.iinc 2 1, 3) := by decide +kernel
theorem dX1_copy_59 : decode cX1_copy 59 = .ok (.goto (-33), 3) := by decide +kernel
theorem dX1_copy_62 : decode cX1_copy 62 = .ok (.return_, 1) := by decide +kernel
theorem dX1_passGust_0 : decode cX1_passGust 0 = .ok (.aload_n 0, 1) := by decide +kernel
theorem dX1_passGust_1 : decode cX1_passGust 1 = .ok (.invokevirtual 32, 3) := by decide +kernel
theorem dX1_passGust_4 : decode cX1_passGust 4 = .ok (.iload_n 2, 1) := by decide +kernel
theorem dX1_passGust_5 : decode cX1_passGust 5 = .ok (.aload_n 0, 1) := by decide +kernel
theorem dX1_passGust_6 : decode cX1_passGust 6 = .ok (.getfield 29, 3) := by decide +kernel
theorem dX1_passGust_9 : decode cX1_passGust 9 = .ok (.if_icmp .lt 16, 3) := by decide +kernel
theorem dX1_passGust_12 : decode cX1_passGust 12 = .ok (.aload_n 0, 1) := by decide +kernel
theorem dX1_passGust_13 : decode cX1_passGust 13 = .ok (.iload_n 1, 1) := by decide +kernel
theorem dX1_passGust_14 : decode cX1_passGust 14 = .ok (.putfield 26, 3) := by decide +kernel
theorem dX1_passGust_17 : decode cX1_passGust 17 = .ok (.aload_n 0, 1) := by decide +kernel
theorem dX1_passGust_18 : decode cX1_passGust 18 = .ok (.iload_n 2, 1) := by decide +kernel
theorem dX1_passGust_19 : decode cX1_passGust 19 = .ok (.putfield 29, 3) := by decide +kernel
theorem dX1_passGust_22 : decode cX1_passGust 22 = .ok (.goto 7, 3) := by decide +kernel
theorem dX1_passGust_25 : decode cX1_passGust 25 = .ok (.aload_n 0, 1) := by decide +kernel
theorem dX1_passGust_26 : decode cX1_passGust 26 = .ok (.invokevirtual 35, 3) := by decide +kernel
theorem dX1_passGust_29 : decode cX1_passGust 29 = .ok (.aload_n 0, 1) := by decide +kernel
theorem dX1_passGust_30 : decode cX1_passGust 30 = .ok (.invokevirtual 38, 3) := by decide +kernel
theorem dX1_passGust_33 : decode cX1_passGust 33 = .ok (.ireturn, 1) := by decide +kernel
theorem dX1_passCalm_0 : decode cX1_passCalm 0 = .ok (.aload_n 0, 1) := by decide +kernel
theorem dX1_passCalm_1 : decode cX1_passCalm 1 = .ok (.invokevirtual 32, 3) := by decide +kernel
theorem dX1_passCalm_4 : decode cX1_passCalm 4 = .ok (.aload_n 0, 1) := by decide +kernel
theorem dX1_passCalm_5 : decode cX1_passCalm 5 = .ok (.invokevirtual 35, 3) := by decide +kernel
theorem dX1_passCalm_8 : decode cX1_passCalm 8 = .ok (.aload_n 0, 1) := by decide +kernel
theorem dX1_passCalm_9 : decode cX1_passCalm 9 = .ok (.invokevirtual 38, 3) := by decide +kernel
theorem dX1_passCalm_12 : decode cX1_passCalm 12 = .ok (.ireturn, 1) := by decide +kernel
theorem dX1_fade_0 : decode cX1_fade 0 = .ok (.aload_n 0, 1) := by decide +kernel
theorem dX1_fade_1 : decode cX1_fade 1 = .ok (.dup, 1) := by decide +kernel
theorem dX1_fade_2 : decode cX1_fade 2 = .ok (.getfield 22, 3) := by decide +kernel
theorem dX1_fade_5 : decode cX1_fade 5 = .ok (.iconst 1, 1) := by decide +kernel
theorem dX1_fade_6 : decode cX1_fade 6 = .ok (.iadd, 1) := by decide +kernel
theorem dX1_fade_7 : decode cX1_fade 7 = .ok (.putfield 22, 3) := by decide +kernel
theorem dX1_fade_10 : decode cX1_fade 10 = .ok (.iconst 0, 1) := by decide +kernel
theorem dX1_fade_11 : decode cX1_fade 11 = .ok (.istore_n 1, 1) := by decide +kernel
theorem dX1_fade_12 : decode cX1_fade 12 = .ok (.iload_n 1, 1) := by decide +kernel
theorem dX1_fade_13 : decode cX1_fade 13 = .ok (.aload_n 0, 1) := by decide +kernel
theorem dX1_fade_14 : decode cX1_fade 14 = .ok (.getfield 18, 3) := by decide +kernel
theorem dX1_fade_17 : decode cX1_fade 17 = .ok (.getfield 42, 3) := by decide +kernel
theorem dX1_fade_20 : decode cX1_fade 20 = .ok (.if_icmp .ge 27, 3) := by decide +kernel
theorem dX1_fade_23 : decode cX1_fade 23 = .ok (.aload_n 0, 1) := by decide +kernel
theorem dX1_fade_24 : decode cX1_fade 24 = .ok (.getfield 15, 3) := by decide +kernel
theorem dX1_fade_27 : decode cX1_fade 27 = .ok (.iload_n 1, 1) := by decide +kernel
theorem dX1_fade_28 : decode cX1_fade 28 = .ok (.aload_n 0, 1) := by decide +kernel
theorem dX1_fade_29 : decode cX1_fade 29 = .ok (.getfield 15, 3) := by decide +kernel
theorem dX1_fade_32 : decode cX1_fade 32 = .ok (.iload_n 1, 1) := by decide +kernel
theorem dX1_fade_33 : decode cX1_fade 33 = .ok (.iaload, 1) := by decide +kernel
theorem dX1_fade_34 : decode cX1_fade 34 = .ok (.iconst 1, 1) := by decide +kernel
theorem dX1_fade_35 : decode cX1_fade 35 = .ok (.isub, 1) := by decide +kernel
theorem dX1_fade_36 : decode cX1_fade 36 = .ok (.iconst 0, 1) := by decide +kernel
theorem dX1_fade_37 : decode cX1_fade 37 = .ok (.invokestatic 47, 3) := by decide +kernel
theorem dX1_fade_40 : decode cX1_fade 40 = .ok (.iastore, 1) := by decide +kernel
theorem dX1_fade_41 : decode cX1_fade 41 = .ok (.iinc 1 1, 3) := by decide +kernel
theorem dX1_fade_44 : decode cX1_fade 44 = .ok (.goto (-32), 3) := by decide +kernel
theorem dX1_fade_47 : decode cX1_fade 47 = .ok (.return_, 1) := by decide +kernel
theorem dX1_swingOver_0 : decode cX1_swingOver 0 = .ok (.aload_n 0, 1) := by decide +kernel
theorem dX1_swingOver_1 : decode cX1_swingOver 1 = .ok (.getfield 26, 3) := by decide +kernel
theorem dX1_swingOver_4 : decode cX1_swingOver 4 = .ok (.aload_n 0, 1) := by decide +kernel
theorem dX1_swingOver_5 : decode cX1_swingOver 5 = .ok (.getfield 18, 3) := by decide +kernel
theorem dX1_swingOver_8 : decode cX1_swingOver 8 = .ok (.getfield 42, 3) := by decide +kernel
theorem dX1_swingOver_11 : decode cX1_swingOver 11 = .ok (.iconst 2, 1) := by decide +kernel
theorem dX1_swingOver_12 : decode cX1_swingOver 12 = .ok (.idiv, 1) := by decide +kernel
theorem dX1_swingOver_13 : decode cX1_swingOver 13 = .ok (.iadd, 1) := by decide +kernel
theorem dX1_swingOver_14 : decode cX1_swingOver 14 = .ok (.istore_n 1, 1) := by decide +kernel
theorem dX1_swingOver_15 : decode cX1_swingOver 15 = .ok (.aload_n 0, 1) := by decide +kernel
theorem dX1_swingOver_16 : decode cX1_swingOver 16 = .ok (.iload_n 1, 1) := by decide +kernel
theorem dX1_swingOver_17 : decode cX1_swingOver 17 = .ok (.aload_n 0, 1) := by decide +kernel
theorem dX1_swingOver_18 : decode cX1_swingOver 18 = .ok (.getfield 18, 3) := by decide +kernel
theorem dX1_swingOver_21 : decode cX1_swingOver 21 = .ok (.getfield 42, 3) := by decide +kernel
theorem dX1_swingOver_24 : decode cX1_swingOver 24 = .ok (.if_icmp .ge 7, 3) := by decide +kernel
theorem dX1_swingOver_27 : decode cX1_swingOver 27 = .ok (.iload_n 1, 1) := by decide +kernel
theorem dX1_swingOver_28 : decode cX1_swingOver 28 = .ok (.goto 12, 3) := by decide +kernel
theorem dX1_swingOver_31 : decode cX1_swingOver 31 = .ok (.iload_n 1, 1) := by decide +kernel
theorem dX1_swingOver_32 : decode cX1_swingOver 32 = .ok (.aload_n 0, 1) := by decide +kernel
theorem dX1_swingOver_33 : decode cX1_swingOver 33 = .ok (.getfield 18, 3) := by decide +kernel
theorem dX1_swingOver_36 : decode cX1_swingOver 36 = .ok (.getfield 42, 3) := by decide +kernel
theorem dX1_swingOver_39 : decode cX1_swingOver 39 = .ok (.isub, 1) := by decide +kernel
theorem dX1_swingOver_40 : decode cX1_swingOver 40 = .ok (.putfield 26, 3) := by decide +kernel
theorem dX1_swingOver_43 : decode cX1_swingOver 43 = .ok (.aload_n 0, 1) := by decide +kernel
theorem dX1_swingOver_44 : decode cX1_swingOver 44 = .ok (.aload_n 0, 1) := by decide +kernel
theorem dX1_swingOver_45 : decode cX1_swingOver 45 = .ok (.getfield 29, 3) := by decide +kernel
theorem dX1_swingOver_48 : decode cX1_swingOver 48 = .ok (.aload_n 0, 1) := by decide +kernel
theorem dX1_swingOver_49 : decode cX1_swingOver 49 = .ok (.getfield 18, 3) := by decide +kernel
theorem dX1_swingOver_52 : decode cX1_swingOver 52 = .ok (.getfield 53, 3) := by decide +kernel
theorem dX1_swingOver_55 : decode cX1_swingOver 55 = .ok (.isub, 1) := by decide +kernel
theorem dX1_swingOver_56 : decode cX1_swingOver 56 = .ok (.iconst 0, 1) := by decide +kernel
theorem dX1_swingOver_57 : decode cX1_swingOver 57 = .ok (.invokestatic 47, 3) := by decide +kernel
theorem dX1_swingOver_60 : decode cX1_swingOver 60 = .ok (.putfield 29, 3) := by decide +kernel
theorem dX1_swingOver_63 : decode cX1_swingOver 63 = .ok (.return_, 1) := by decide +kernel
theorem dX1_strike_0 : decode cX1_strike 0 = .ok (.aload_n 0, 1) := by decide +kernel
theorem dX1_strike_1 : decode cX1_strike 1 = .ok (.aload_n 0, 1) := by decide +kernel
theorem dX1_strike_2 : decode cX1_strike 2 = .ok (.getfield 26, 3) := by decide +kernel
theorem dX1_strike_5 : decode cX1_strike 5 = .ok (.invokevirtual 56, 3) := by decide +kernel
theorem dX1_strike_8 : decode cX1_strike 8 = .ok (.istore_n 1, 1) := by decide +kernel
theorem dX1_strike_9 : decode cX1_strike 9 = .ok (.aload_n 0, 1) := by decide +kernel
theorem dX1_strike_10 : decode cX1_strike 10 = .ok (.getfield 18, 3) := by decide +kernel
theorem dX1_strike_13 : decode cX1_strike 13 = .ok (.iload_n 1, 1) := by decide +kernel
theorem dX1_strike_14 : decode cX1_strike 14 = .ok (.invokevirtual 60, 3) := by decide +kernel
theorem dX1_strike_17 : decode cX1_strike 17 = .ok (.ifCond .eq 19, 3) := by decide +kernel
theorem dX1_strike_20 : decode cX1_strike 20 = .ok (.aload_n 0, 1) := by decide +kernel
theorem dX1_strike_21 : decode cX1_strike 21 = .ok (.getfield 29, 3) := by decide +kernel
theorem dX1_strike_24 : decode cX1_strike 24 = .ok (.aload_n 0, 1) := by decide +kernel
theorem dX1_strike_25 : decode cX1_strike 25 = .ok (.getfield 18, 3) := by decide +kernel
theorem dX1_strike_28 : decode cX1_strike 28 = .ok (.getfield 64, 3) := by decide +kernel
theorem dX1_strike_31 : decode cX1_strike 31 = .ok (.iload_n 1, 1) := by decide +kernel
theorem dX1_strike_32 : decode cX1_strike 32 = .ok (.iaload, 1) := by decide +kernel
theorem dX1_strike_33 : decode cX1_strike 33 = .ok (.if_icmp .ge 6, 3) := by decide +kernel
theorem dX1_strike_36 : decode cX1_strike 36 = .ok (.bipush (-9), 2) := by decide +kernel
theorem dX1_strike_38 : decode cX1_strike 38 = .ok (.ireturn, 1) := by decide +kernel
theorem dX1_strike_39 : decode cX1_strike 39 = .ok (.aload_n 0, 1) := by decide +kernel
theorem dX1_strike_40 : decode cX1_strike 40 = .ok (.getfield 15, 3) := by decide +kernel
theorem dX1_strike_43 : decode cX1_strike 43 = .ok (.iload_n 1, 1) := by decide +kernel
theorem dX1_strike_44 : decode cX1_strike 44 = .ok (.aload_n 0, 1) := by decide +kernel
theorem dX1_strike_45 : decode cX1_strike 45 = .ok (.getfield 18, 3) := by decide +kernel
theorem dX1_strike_48 : decode cX1_strike 48 = .ok (.getfield 67, 3) := by decide +kernel
theorem dX1_strike_51 : decode cX1_strike 51 = .ok (.iload_n 1, 1) := by decide +kernel
theorem dX1_strike_52 : decode cX1_strike 52 = .ok (.iaload, 1) := by decide +kernel
theorem dX1_strike_53 : decode cX1_strike 53 = .ok (.iastore, 1) := by decide +kernel
theorem dX1_strike_54 : decode cX1_strike 54 = .ok (.aload_n 0, 1) := by decide +kernel
theorem dX1_strike_55 : decode cX1_strike 55 = .ok (.dup, 1) := by decide +kernel
theorem dX1_strike_56 : decode cX1_strike 56 = .ok (.getfield 29, 3) := by decide +kernel
theorem dX1_strike_59 : decode cX1_strike 59 = .ok (.iconst 1, 1) := by decide +kernel
theorem dX1_strike_60 : decode cX1_strike 60 = .ok (.isub, 1) := by decide +kernel
theorem dX1_strike_61 : decode cX1_strike 61 = .ok (.putfield 29, 3) := by decide +kernel
theorem dX1_strike_64 : decode cX1_strike 64 = .ok (.iload_n 1, 1) := by decide +kernel
theorem dX1_strike_65 : decode cX1_strike 65 = .ok (.ireturn, 1) := by decide +kernel
theorem dX1_rodAt_0 : decode cX1_rodAt 0 = .ok (.iconst 0, 1) := by decide +kernel
theorem dX1_rodAt_1 : decode cX1_rodAt 1 = .ok (.istore_n 2, 1) := by decide +kernel
theorem dX1_rodAt_2 : decode cX1_rodAt 2 = .ok (.iload_n 2, 1) := by decide +kernel
theorem dX1_rodAt_3 : decode cX1_rodAt 3 = .ok (.aload_n 0, 1) := by decide +kernel
theorem dX1_rodAt_4 : decode cX1_rodAt 4 = .ok (.getfield 18, 3) := by decide +kernel
theorem dX1_rodAt_7 : decode cX1_rodAt 7 = .ok (.getfield 42, 3) := by decide +kernel
theorem dX1_rodAt_10 : decode cX1_rodAt 10 = .ok (.if_icmp .ge 21, 3) := by decide +kernel
theorem dX1_rodAt_13 : decode cX1_rodAt 13 = .ok (.aload_n 0, 1) := by decide +kernel
theorem dX1_rodAt_14 : decode cX1_rodAt 14 = .ok (.getfield 9, 3) := by decide +kernel
theorem dX1_rodAt_17 : decode cX1_rodAt 17 = .ok (.iload_n 2, 1) := by decide +kernel
theorem dX1_rodAt_18 : decode cX1_rodAt 18 = .ok (.iaload, 1) := by decide +kernel
theorem dX1_rodAt_19 : decode cX1_rodAt 19 = .ok (.iload_n 1, 1) := by decide +kernel
theorem dX1_rodAt_20 : decode cX1_rodAt 20 = .ok (.if_icmp .ne 5, 3) := by decide +kernel
theorem dX1_rodAt_23 : decode cX1_rodAt 23 = .ok (.iload_n 2, 1) := by decide +kernel
theorem dX1_rodAt_24 : decode cX1_rodAt 24 = .ok (.ireturn, 1) := by decide +kernel
theorem dX1_rodAt_25 : decode cX1_rodAt 25 = .ok (.iinc 2 1, 3) := by decide +kernel
theorem dX1_rodAt_28 : decode cX1_rodAt 28 = .ok (.goto (-26), 3) := by decide +kernel
theorem dX1_rodAt_31 : decode cX1_rodAt 31 = .ok (.bipush (-9), 2) := by decide +kernel
theorem dX1_rodAt_33 : decode cX1_rodAt 33 = .ok (.ireturn, 1) := by decide +kernel
theorem dX1_exchange_0 : decode cX1_exchange 0 = .ok (.aload_n 0, 1) := by decide +kernel
theorem dX1_exchange_1 : decode cX1_exchange 1 = .ok (.getfield 9, 3) := by decide +kernel
theorem dX1_exchange_4 : decode cX1_exchange 4 = .ok (.iload_n 1, 1) := by decide +kernel
theorem dX1_exchange_5 : decode cX1_exchange 5 = .ok (.iaload, 1) := by decide +kernel
theorem dX1_exchange_6 : decode cX1_exchange 6 = .ok (.istore_n 3, 1) := by decide +kernel
theorem dX1_exchange_7 : decode cX1_exchange 7 = .ok (.aload_n 0, 1) := by decide +kernel
theorem dX1_exchange_8 : decode cX1_exchange 8 = .ok (.getfield 9, 3) := by decide +kernel
theorem dX1_exchange_11 : decode cX1_exchange 11 = .ok (.iload_n 1, 1) := by decide +kernel
theorem dX1_exchange_12 : decode cX1_exchange 12 = .ok (.aload_n 0, 1) := by decide +kernel
theorem dX1_exchange_13 : decode cX1_exchange 13 = .ok (.getfield 9, 3) := by decide +kernel
theorem dX1_exchange_16 : decode cX1_exchange 16 = .ok (.iload_n 2, 1) := by decide +kernel
theorem dX1_exchange_17 : decode cX1_exchange 17 = .ok (.iaload, 1) := by decide +kernel
theorem dX1_exchange_18 : decode cX1_exchange 18 = .ok (.iastore, 1) := by decide +kernel
theorem dX1_exchange_19 : decode cX1_exchange 19 = .ok (.aload_n 0, 1) := by decide +kernel
theorem dX1_exchange_20 : decode cX1_exchange 20 = .ok (.getfield 9, 3) := by decide +kernel
theorem dX1_exchange_23 : decode cX1_exchange 23 = .ok (.iload_n 2, 1) := by decide +kernel
theorem dX1_exchange_24 : decode cX1_exchange 24 = .ok (.iload_n 3, 1) := by decide +kernel
theorem dX1_exchange_25 : decode cX1_exchange 25 = .ok (.iastore, 1) := by decide +kernel
theorem dX1_exchange_26 : decode cX1_exchange 26 = .ok (.return_, 1) := by decide +kernel
theorem dX1_ringing_0 : decode cX1_ringing 0 = .ok (.iconst 0, 1) := by decide +kernel
theorem dX1_ringing_1 : decode cX1_ringing 1 = .ok (.istore_n 1, 1) := by decide +kernel
theorem dX1_ringing_2 : decode cX1_ringing 2 = .ok (.iconst 0, 1) := by decide +kernel
theorem dX1_ringing_3 : decode cX1_ringing 3 = .ok (.istore_n 2, 1) := by decide +kernel
theorem dX1_ringing_4 : decode cX1_ringing 4 = .ok (.iload_n 2, 1) := by decide +kernel
theorem dX1_ringing_5 : decode cX1_ringing 5 = .ok (.aload_n 0, 1) := by decide +kernel
theorem dX1_ringing_6 : decode cX1_ringing 6 = .ok (.getfield 18, 3) := by decide +kernel
theorem dX1_ringing_9 : decode cX1_ringing 9 = .ok (.getfield 42, 3) := by decide +kernel
theorem dX1_ringing_12 : decode cX1_ringing 12 = .ok (.if_icmp .ge 24, 3) := by decide +kernel
theorem dX1_ringing_15 : decode cX1_ringing 15 = .ok (.aload_n 0, 1) := by decide +kernel
theorem dX1_ringing_16 : decode cX1_ringing 16 = .ok (.getfield 15, 3) := by decide +kernel
theorem dX1_ringing_19 : decode cX1_ringing 19 = .ok (.iload_n 2, 1) := by decide +kernel
theorem dX1_ringing_20 : decode cX1_ringing 20 = .ok (.iaload, 1) := by decide +kernel
theorem dX1_ringing_21 : decode cX1_ringing 21 = .ok (.ifCond .le 9, 3) := by decide +kernel
theorem dX1_ringing_24 : decode cX1_ringing 24 = .ok (.iload_n 1, 1) := by decide +kernel
theorem dX1_ringing_25 : decode cX1_ringing 25 = .ok (.iconst 1, 1) := by decide +kernel
theorem dX1_ringing_26 : decode cX1_ringing 26 = .ok (.iload_n 2, 1) := by decide +kernel
theorem dX1_ringing_27 : decode cX1_ringing 27 = .ok (.ishl, 1) := by decide +kernel
theorem dX1_ringing_28 : decode cX1_ringing 28 = .ok (.ior, 1) := by decide +kernel
theorem dX1_ringing_29 : decode cX1_ringing 29 = .ok (.istore_n 1, 1) := by decide +kernel
theorem dX1_ringing_30 : decode cX1_ringing 30 = .ok (.iinc 2 1, 3) := by decide +kernel
theorem dX1_ringing_33 : decode cX1_ringing 33 = .ok (.goto (-29), 3) := by decide +kernel
theorem dX1_ringing_36 : decode cX1_ringing 36 = .ok (.iload_n 1, 1) := by decide +kernel
theorem dX1_ringing_37 : decode cX1_ringing 37 = .ok (.ireturn, 1) := by decide +kernel
theorem dX1_harsh_0 : decode cX1_harsh 0 = .ok (.iconst 0, 1) := by decide +kernel
theorem dX1_harsh_1 : decode cX1_harsh 1 = .ok (.istore_n 1, 1) := by decide +kernel
theorem dX1_harsh_2 : decode cX1_harsh 2 = .ok (.iconst 0, 1) := by decide +kernel
theorem dX1_harsh_3 : decode cX1_harsh 3 = .ok (.istore_n 2, 1) := by decide +kernel
theorem dX1_harsh_4 : decode cX1_harsh 4 = .ok (.iload_n 2, 1) := by decide +kernel
theorem dX1_harsh_5 : decode cX1_harsh 5 = .ok (.aload_n 0, 1) := by decide +kernel
theorem dX1_harsh_6 : decode cX1_harsh 6 = .ok (.getfield 18, 3) := by decide +kernel
theorem dX1_harsh_9 : decode cX1_harsh 9 = .ok (.getfield 42, 3) := by decide +kernel
theorem dX1_harsh_12 : decode cX1_harsh 12 = .ok (.if_icmp .ge 63, 3) := by decide +kernel
theorem dX1_harsh_15 : decode cX1_harsh 15 = .ok (.iload_n 2, 1) := by decide +kernel
theorem dX1_harsh_16 : decode cX1_harsh 16 = .ok (.iconst 1, 1) := by decide +kernel
theorem dX1_harsh_17 : decode cX1_harsh 17 = .ok (.iadd, 1) := by decide +kernel
theorem dX1_harsh_18 : decode cX1_harsh 18 = .ok (.istore_n 3, 1) := by decide +kernel
theorem dX1_harsh_19 : decode cX1_harsh 19 = .ok (.iload_n 3, 1) := by decide +kernel
theorem dX1_harsh_20 : decode cX1_harsh 20 = .ok (.aload_n 0, 1) := by decide +kernel
theorem dX1_harsh_21 : decode cX1_harsh 21 = .ok (.getfield 18, 3) := by decide +kernel
theorem dX1_harsh_24 : decode cX1_harsh 24 = .ok (.getfield 42, 3) := by decide +kernel
theorem dX1_harsh_27 : decode cX1_harsh 27 = .ok (.if_icmp .ge 42, 3) := by decide +kernel
theorem dX1_harsh_30 : decode cX1_harsh 30 = .ok (.aload_n 0, 1) := by decide +kernel
theorem dX1_harsh_31 : decode cX1_harsh 31 = .ok (.getfield 15, 3) := by decide +kernel
theorem dX1_harsh_34 : decode cX1_harsh 34 = .ok (.iload_n 2, 1) := by decide +kernel
theorem dX1_harsh_35 : decode cX1_harsh 35 = .ok (.iaload, 1) := by decide +kernel
theorem dX1_harsh_36 : decode cX1_harsh 36 = .ok (.ifCond .le 33, 3) := by decide +kernel
theorem dX1_harsh_39 : decode cX1_harsh 39 = .ok (.aload_n 0, 1) := by decide +kernel
theorem dX1_harsh_40 : decode cX1_harsh 40 = .ok (.getfield 15, 3) := by decide +kernel
theorem dX1_harsh_43 : decode cX1_harsh 43 = .ok (.iload_n 3, 1) := by decide +kernel
theorem dX1_harsh_44 : decode cX1_harsh 44 = .ok (.iaload, 1) := by decide +kernel
theorem dX1_harsh_45 : decode cX1_harsh 45 = .ok (.ifCond .le 18, 3) := by decide +kernel
theorem dX1_harsh_48 : decode cX1_harsh 48 = .ok (.aload_n 0, 1) := by decide +kernel
theorem dX1_harsh_49 : decode cX1_harsh 49 = .ok (.getfield 18, 3) := by decide +kernel
theorem dX1_harsh_52 : decode cX1_harsh 52 = .ok (.iload_n 2, 1) := by decide +kernel
theorem dX1_harsh_53 : decode cX1_harsh 53 = .ok (.iload_n 3, 1) := by decide +kernel
theorem dX1_harsh_54 : decode cX1_harsh 54 = .ok (.invokevirtual 70, 3) := by decide +kernel
theorem dX1_harsh_57 : decode cX1_harsh 57 = .ok (.ifCond .eq 6, 3) := by decide +kernel
theorem dX1_harsh_60 : decode cX1_harsh 60 = .ok (.iinc 1 1, 3) := by decide +kernel
theorem dX1_harsh_63 : decode cX1_harsh 63 = .ok (.iinc 3 1, 3) := by decide +kernel
theorem dX1_harsh_66 : decode cX1_harsh 66 = .ok (.goto (-47), 3) := by decide +kernel
theorem dX1_harsh_69 : decode cX1_harsh 69 = .ok (.iinc 2 1, 3) := by decide +kernel
theorem dX1_harsh_72 : decode cX1_harsh 72 = .ok (.goto (-68), 3) := by decide +kernel
theorem dX1_harsh_75 : decode cX1_harsh 75 = .ok (.iload_n 1, 1) := by decide +kernel
theorem dX1_harsh_76 : decode cX1_harsh 76 = .ok (.ireturn, 1) := by decide +kernel
theorem dX1_isStill_0 : decode cX1_isStill 0 = .ok (.aload_n 0, 1) := by decide +kernel
theorem dX1_isStill_1 : decode cX1_isStill 1 = .ok (.getfield 29, 3) := by decide +kernel
theorem dX1_isStill_4 : decode cX1_isStill 4 = .ok (.ifCond .ne 14, 3) := by decide +kernel
theorem dX1_isStill_7 : decode cX1_isStill 7 = .ok (.aload_n 0, 1) := by decide +kernel
theorem dX1_isStill_8 : decode cX1_isStill 8 = .ok (.invokevirtual 74, 3) := by decide +kernel
theorem dX1_isStill_11 : decode cX1_isStill 11 = .ok (.ifCond .ne 7, 3) := by decide +kernel
theorem dX1_isStill_14 : decode cX1_isStill 14 = .ok (.iconst 1, 1) := by decide +kernel
theorem dX1_isStill_15 : decode cX1_isStill 15 = .ok (.goto 4, 3) := by decide +kernel
theorem dX1_isStill_18 : decode cX1_isStill 18 = .ok (.iconst 0, 1) := by decide +kernel
theorem dX1_isStill_19 : decode cX1_isStill 19 = .ok (.ireturn, 1) := by decide +kernel
end
section
theorem dX2_init_0 : decode cX2_init 0 = .ok (.aload_n 0, 1) := by decide +kernel
theorem dX2_init_1 : decode cX2_init 1 = .ok (.invokespecial 3, 3) := by decide +kernel
theorem dX2_init_4 : decode cX2_init 4 = .ok (.aload_n 0, 1) := by decide +kernel
theorem dX2_init_5 : decode cX2_init 5 = .ok (.iconst 1, 1) := by decide +kernel
theorem dX2_init_6 : decode cX2_init 6 = .ok (.putfield 9, 3) := by decide +kernel
theorem dX2_init_9 : decode cX2_init 9 = .ok (.aload_n 0, 1) := by decide +kernel
theorem dX2_init_10 : decode cX2_init 10 = .ok (.bipush 8, 2) := by decide +kernel
theorem dX2_init_12 : decode cX2_init 12 = .ok (.newarray .int, 2) := by decide +kernel
theorem dX2_init_14 : decode cX2_init 14 = .ok (.putfield 15, 3) := by decide +kernel
theorem dX2_init_17 : decode cX2_init 17 = .ok (.aload_n 0, 1) := by decide +kernel
theorem dX2_init_18 : decode cX2_init 18 = .ok (.bipush 8, 2) := by decide +kernel
theorem dX2_init_20 : decode cX2_init 20 = .ok (.newarray .int, 2) := by decide +kernel
theorem dX2_init_22 : decode cX2_init 22 = .ok (.putfield 19, 3) := by decide +kernel
theorem dX2_init_25 : decode cX2_init 25 = .ok (.aload_n 0, 1) := by decide +kernel
theorem dX2_init_26 : decode cX2_init 26 = .ok (.bipush 8, 2) := by decide +kernel
theorem dX2_init_28 : decode cX2_init 28 = .ok (.newarray .int, 2) := by decide +kernel
theorem dX2_init_30 : decode cX2_init 30 = .ok (.putfield 22, 3) := by decide +kernel
theorem dX2_init_33 : decode cX2_init 33 = .ok (.return_, 1) := by decide +kernel
theorem dX2_has_0 : decode cX2_has 0 = .ok (.iload_n 1, 1) := by decide +kernel
theorem dX2_has_1 : decode cX2_has 1 = .ok (.ifCond .lt 15, 3) := by decide +kernel
theorem dX2_has_4 : decode cX2_has 4 = .ok (.iload_n 1, 1) := by decide +kernel
theorem dX2_has_5 : decode cX2_has 5 = .ok (.aload_n 0, 1) := by decide +kernel
theorem dX2_has_6 : decode cX2_has 6 = .ok (.getfield 25, 3) := by decide +kernel
theorem dX2_has_9 : decode cX2_has 9 = .ok (.if_icmp .ge 7, 3) := by decide +kernel
theorem dX2_has_12 : decode cX2_has 12 = .ok (.iconst 1, 1) := by decide +kernel
theorem dX2_has_13 : decode cX2_has 13 = .ok (.goto 4, 3) := by decide +kernel
theorem dX2_has_16 : decode cX2_has 16 = .ok (.iconst 0, 1) := by decide +kernel
theorem dX2_has_17 : decode cX2_has 17 = .ok (.ireturn, 1) := by decide +kernel
theorem dX2_empty_0 : decode cX2_empty 0 = .ok (.aload_n 0, 1) := by decide +kernel
theorem dX2_empty_1 : decode cX2_empty 1 = .ok (.iconst 0, 1) := by decide +kernel
theorem dX2_empty_2 : decode cX2_empty 2 = .ok (.putfield 25, 3) := by decide +kernel
theorem dX2_empty_5 : decode cX2_empty 5 = .ok (.aload_n 0, 1) := by decide +kernel
theorem dX2_empty_6 : decode cX2_empty 6 = .ok (.iconst 1, 1) := by decide +kernel
theorem dX2_empty_7 : decode cX2_empty 7 = .ok (.putfield 9, 3) := by decide +kernel
theorem dX2_empty_10 : decode cX2_empty 10 = .ok (.return_, 1) := by decide +kernel
theorem dX2_add_0 : decode cX2_add 0 = .ok (.aload_n 0, 1) := by decide +kernel
theorem dX2_add_1 : decode cX2_add 1 = .ok (.getfield 25, 3) := by decide +kernel
theorem dX2_add_4 : decode cX2_add 4 = .ok (.bipush 8, 2) := by decide +kernel
theorem dX2_add_6 : decode cX2_add 6 = .ok (.if_icmp .lt 5, 3) := by decide +kernel
theorem dX2_add_9 : decode cX2_add 9 = .ok (.iconst 0, 1) := by decide +kernel
theorem dX2_add_10 : decode cX2_add 10 = .ok (.ireturn, 1) := by decide +kernel
theorem dX2_add_11 : decode cX2_add 11 = .ok (.aload_n 0, 1) := by decide +kernel
theorem dX2_add_12 : decode cX2_add 12 = .ok (.getfield 15, 3) := by decide +kernel
theorem dX2_add_15 : decode cX2_add 15 = .ok (.aload_n 0, 1) := by decide +kernel
theorem dX2_add_16 : decode cX2_add 16 = .ok (.getfield 25, 3) := by decide +kernel
theorem dX2_add_19 : decode cX2_add 19 = .ok (.iload_n 1, 1) := by decide +kernel
theorem dX2_add_20 : decode cX2_add 20 = .ok (.iastore, 1) := by decide +kernel
theorem dX2_add_21 : decode cX2_add 21 = .ok (.aload_n 0, 1) := by decide +kernel
theorem dX2_add_22 : decode cX2_add 22 = .ok (.getfield 19, 3) := by decide +kernel
theorem dX2_add_25 : decode cX2_add 25 = .ok (.aload_n 0, 1) := by decide +kernel
theorem dX2_add_26 : decode cX2_add 26 = .ok (.getfield 25, 3) := by decide +kernel
theorem dX2_add_29 : decode cX2_add 29 = .ok (.iload_n 2, 1) := by decide +kernel
theorem dX2_add_30 : decode cX2_add 30 = .ok (.iastore, 1) := by decide +kernel
theorem dX2_add_31 : decode cX2_add 31 = .ok (.aload_n 0, 1) := by decide +kernel
theorem dX2_add_32 : decode cX2_add 32 = .ok (.getfield 22, 3) := by decide +kernel
theorem dX2_add_35 : decode cX2_add 35 = .ok (.aload_n 0, 1) := by decide +kernel
theorem dX2_add_36 : decode cX2_add 36 = .ok (.getfield 25, 3) := by decide +kernel
theorem dX2_add_39 : decode cX2_add 39 = .ok (.iload_n 3, 1) := by decide +kernel
theorem dX2_add_40 : decode cX2_add 40 = .ok (.iastore, 1) := by decide +kernel
theorem dX2_add_41 : decode cX2_add 41 = .ok (.aload_n 0, 1) := by decide +kernel
theorem dX2_add_42 : decode cX2_add 42 = .ok (.dup, 1) := by decide +kernel
theorem dX2_add_43 : decode cX2_add 43 = .ok (.getfield 25, 3) := by decide +kernel
theorem dX2_add_46 : decode cX2_add 46 = .ok (.iconst 1, 1) := by decide +kernel
theorem dX2_add_47 : decode cX2_add 47 = .ok (.iadd, 1) := by decide +kernel
theorem dX2_add_48 : decode cX2_add 48 = .ok (.putfield 25, 3) := by decide +kernel
theorem dX2_add_51 : decode cX2_add 51 = .ok (.iconst 1, 1) := by decide +kernel
theorem dX2_add_52 : decode cX2_add 52 = .ok (.ireturn, 1) := by decide +kernel
theorem dX2_take_0 : decode cX2_take 0 = .ok (.aload_n 0, 1) := by decide +kernel
theorem dX2_take_1 : decode cX2_take 1 = .ok (.aload_n 1, 1) := by decide +kernel
theorem dX2_take_2 : decode cX2_take 2 = .ok (.getfield 25, 3) := by decide +kernel
theorem dX2_take_5 : decode cX2_take 5 = .ok (.putfield 25, 3) := by decide +kernel
theorem dX2_take_8 : decode cX2_take 8 = .ok (.aload_n 0, 1) := by decide +kernel
theorem dX2_take_9 : decode cX2_take 9 = .ok (.aload_n 1, 1) := by decide +kernel
theorem dX2_take_10 : decode cX2_take 10 = .ok (.getfield 9, 3) := by decide +kernel
theorem dX2_take_13 : decode cX2_take 13 = .ok (.putfield 9, 3) := by decide +kernel
theorem dX2_take_16 : decode cX2_take 16 = .ok (.iconst 0, 1) := by decide +kernel
theorem dX2_take_17 : decode cX2_take 17 = .ok (.istore_n 2, 1) := by decide +kernel
theorem dX2_take_18 : decode cX2_take 18 = .ok (.iload_n 2, 1) := by decide +kernel
theorem dX2_take_19 : decode cX2_take 19 = .ok (.bipush 8, 2) := by decide +kernel
theorem dX2_take_21 : decode cX2_take 21 = .ok (.if_icmp .ge 45, 3) := by decide +kernel
theorem dX2_take_24 : decode cX2_take 24 = .ok (.aload_n 0, 1) := by decide +kernel
theorem dX2_take_25 : decode cX2_take 25 = .ok (.getfield 15, 3) := by decide +kernel
theorem dX2_take_28 : decode cX2_take 28 = .ok (.iload_n 2, 1) := by decide +kernel
theorem dX2_take_29 : decode cX2_take 29 = .ok (.aload_n 1, 1) := by decide +kernel
theorem dX2_take_30 : decode cX2_take 30 = .ok (.getfield 15, 3) := by decide +kernel
theorem dX2_take_33 : decode cX2_take 33 = .ok (.iload_n 2, 1) := by decide +kernel
theorem dX2_take_34 : decode cX2_take 34 = .ok (.iaload, 1) := by decide +kernel
theorem dX2_take_35 : decode cX2_take 35 = .ok (.iastore, 1) := by decide +kernel
theorem dX2_take_36 : decode cX2_take 36 = .ok (.aload_n 0, 1) := by decide +kernel
theorem dX2_take_37 : decode cX2_take 37 = .ok (.getfield 19, 3) := by decide +kernel
theorem dX2_take_40 : decode cX2_take 40 = .ok (.iload_n 2, 1) := by decide +kernel
theorem dX2_take_41 : decode cX2_take 41 = .ok (.aload_n 1, 1) := by decide +kernel
theorem dX2_take_42 : decode cX2_take 42 = .ok (.getfield 19, 3) := by decide +kernel
theorem dX2_take_45 : decode cX2_take 45 = .ok (.iload_n 2, 1) := by decide +kernel
theorem dX2_take_46 : decode cX2_take 46 = .ok (.iaload, 1) := by decide +kernel
theorem dX2_take_47 : decode cX2_take 47 = .ok (.iastore, 1) := by decide +kernel
theorem dX2_take_48 : decode cX2_take 48 = .ok (.aload_n 0, 1) := by decide +kernel
theorem dX2_take_49 : decode cX2_take 49 = .ok (.getfield 22, 3) := by decide +kernel
theorem dX2_take_52 : decode cX2_take 52 = .ok (.iload_n 2, 1) := by decide +kernel
theorem dX2_take_53 : decode cX2_take 53 = .ok (.aload_n 1, 1) := by decide +kernel
theorem dX2_take_54 : decode cX2_take 54 = .ok (.getfield 22, 3) := by decide +kernel
theorem dX2_take_57 : decode cX2_take 57 = .ok (.iload_n 2, 1) := by decide +kernel
theorem dX2_take_58 : decode cX2_take 58 = .ok (.iaload, 1) := by decide +kernel
theorem dX2_take_59 : decode cX2_take 59 = .ok (.iastore, 1) := by decide +kernel
theorem dX2_take_60 : decode cX2_take 60 = .ok (.iinc 2 1, 3) := by decide +kernel
theorem dX2_take_63 : decode cX2_take 63 = .ok (.goto (-45), 3) := by decide +kernel
theorem dX2_take_66 : decode cX2_take 66 = .ok (.return_, 1) := by decide +kernel
theorem dX2_clash_0 : decode cX2_clash 0 = .ok (.aload_n 0, 1) := by decide +kernel
theorem dX2_clash_1 : decode cX2_clash 1 = .ok (.getfield 15, 3) := by decide +kernel
theorem dX2_clash_4 : decode cX2_clash 4 = .ok (.iload_n 1, 1) := by decide +kernel
theorem dX2_clash_5 : decode cX2_clash 5 = .ok (.iaload, 1) := by decide +kernel
theorem dX2_clash_6 : decode cX2_clash 6 = .ok (.aload_n 0, 1) := by decide +kernel
theorem dX2_clash_7 : decode cX2_clash 7 = .ok (.getfield 15, 3) := by decide +kernel
theorem dX2_clash_10 : decode cX2_clash 10 = .ok (.iload_n 2, 1) := by decide +kernel
theorem dX2_clash_11 : decode cX2_clash 11 = .ok (.iaload, 1) := by decide +kernel
theorem dX2_clash_12 : decode cX2_clash 12 = .ok (.if_icmp .ge 19, 3) := by decide +kernel
theorem dX2_clash_15 : decode cX2_clash 15 = .ok (.aload_n 0, 1) := by decide +kernel
theorem dX2_clash_16 : decode cX2_clash 16 = .ok (.getfield 15, 3) := by decide +kernel
theorem dX2_clash_19 : decode cX2_clash 19 = .ok (.iload_n 2, 1) := by decide +kernel
theorem dX2_clash_20 : decode cX2_clash 20 = .ok (.iaload, 1) := by decide +kernel
theorem dX2_clash_21 : decode cX2_clash 21 = .ok (.aload_n 0, 1) := by decide +kernel
theorem dX2_clash_22 : decode cX2_clash 22 = .ok (.getfield 15, 3) := by decide +kernel
theorem dX2_clash_25 : decode cX2_clash 25 = .ok (.iload_n 1, 1) := by decide +kernel
theorem dX2_clash_26 : decode cX2_clash 26 = .ok (.iaload, 1) := by decide +kernel
theorem dX2_clash_27 : decode cX2_clash 27 = .ok (.isub, 1) := by decide +kernel
theorem dX2_clash_28 : decode cX2_clash 28 = .ok (.goto 16, 3) := by decide +kernel
theorem dX2_clash_31 : decode cX2_clash 31 = .ok (.aload_n 0, 1) := by decide +kernel
theorem dX2_clash_32 : decode cX2_clash 32 = .ok (.getfield 15, 3) := by decide +kernel
theorem dX2_clash_35 : decode cX2_clash 35 = .ok (.iload_n 1, 1) := by decide +kernel
theorem dX2_clash_36 : decode cX2_clash 36 = .ok (.iaload, 1) := by decide +kernel
theorem dX2_clash_37 : decode cX2_clash 37 = .ok (.aload_n 0, 1) := by decide +kernel
theorem dX2_clash_38 : decode cX2_clash 38 = .ok (.getfield 15, 3) := by decide +kernel
theorem dX2_clash_41 : decode cX2_clash 41 = .ok (.iload_n 2, 1) := by decide +kernel
theorem dX2_clash_42 : decode cX2_clash 42 = .ok (.iaload, 1) := by decide +kernel
theorem dX2_clash_43 : decode cX2_clash 43 = .ok (.isub, 1) := by decide +kernel
theorem dX2_clash_44 : decode cX2_clash 44 = .ok (.istore_n 3, 1) := by decide +kernel
theorem dX2_clash_45 : decode cX2_clash 45 = .ok (.iload_n 3, 1) := by decide +kernel
theorem dX2_clash_46 : decode cX2_clash 46 = .ok (.bipush 12, 2) := by decide +kernel
theorem dX2_clash_48 : decode cX2_clash 48 = .ok (.irem, 1) := by decide +kernel
theorem dX2_clash_49 : decode cX2_clash 49 = .ok (.tableswitch 61 1 11 #[59, 59, 61, 61, 61, 59, 61, 61, 61, 59, 59], 59) := by decide +kernel
theorem dX2_clash_108 : decode cX2_clash 108 = .ok (.iconst 1, 1) := by decide +kernel
theorem dX2_clash_109 : decode cX2_clash 109 = .ok (.ireturn, 1) := by decide +kernel
theorem dX2_clash_110 : decode cX2_clash 110 = .ok (.iconst 0, 1) := by decide +kernel
theorem dX2_clash_111 : decode cX2_clash 111 = .ok (.ireturn, 1) := by decide +kernel
end
section
theorem dX3_init_0 : decode cX3_init 0 = .ok (.aload_n 0, 1) := by decide +kernel
theorem dX3_init_1 : decode cX3_init 1 = .ok (.invokespecial 3, 3) := by decide +kernel
theorem dX3_init_4 : decode cX3_init 4 = .ok (.aload_n 0, 1) := by decide +kernel
theorem dX3_init_5 : decode cX3_init 5 = .ok (.bipush 120, 2) := by decide +kernel
theorem dX3_init_7 : decode cX3_init 7 = .ok (.newarray .int, 2) := by decide +kernel
theorem dX3_init_9 : decode cX3_init 9 = .ok (.putfield 9, 3) := by decide +kernel
theorem dX3_init_12 : decode cX3_init 12 = .ok (.aload_n 0, 1) := by decide +kernel
theorem dX3_init_13 : decode cX3_init 13 = .ok (.new 15, 3) := by decide +kernel
theorem dX3_init_16 : decode cX3_init 16 = .ok (.dup, 1) := by decide +kernel
theorem dX3_init_17 : decode cX3_init 17 = .ok (.invokespecial 17, 3) := by decide +kernel
theorem dX3_init_20 : decode cX3_init 20 = .ok (.putfield 18, 3) := by decide +kernel
theorem dX3_init_23 : decode cX3_init 23 = .ok (.return_, 1) := by decide +kernel
theorem dX3_add_0 : decode cX3_add 0 = .ok (.aload_n 0, 1) := by decide +kernel
theorem dX3_add_1 : decode cX3_add 1 = .ok (.getfield 22, 3) := by decide +kernel
theorem dX3_add_4 : decode cX3_add 4 = .ok (.bipush 120, 2) := by decide +kernel
theorem dX3_add_6 : decode cX3_add 6 = .ok (.if_icmp .lt 5, 3) := by decide +kernel
theorem dX3_add_9 : decode cX3_add 9 = .ok (.iconst 0, 1) := by decide +kernel
theorem dX3_add_10 : decode cX3_add 10 = .ok (.ireturn, 1) := by decide +kernel
theorem dX3_add_11 : decode cX3_add 11 = .ok (.aload_n 0, 1) := by decide +kernel
theorem dX3_add_12 : decode cX3_add 12 = .ok (.getfield 9, 3) := by decide +kernel
theorem dX3_add_15 : decode cX3_add 15 = .ok (.aload_n 0, 1) := by decide +kernel
theorem dX3_add_16 : decode cX3_add 16 = .ok (.getfield 22, 3) := by decide +kernel
theorem dX3_add_19 : decode cX3_add 19 = .ok (.iload_n 1, 1) := by decide +kernel
theorem dX3_add_20 : decode cX3_add 20 = .ok (.iastore, 1) := by decide +kernel
theorem dX3_add_21 : decode cX3_add 21 = .ok (.aload_n 0, 1) := by decide +kernel
theorem dX3_add_22 : decode cX3_add 22 = .ok (.dup, 1) := by decide +kernel
theorem dX3_add_23 : decode cX3_add 23 = .ok (.getfield 22, 3) := by decide +kernel
theorem dX3_add_26 : decode cX3_add 26 = .ok (.iconst 1, 1) := by decide +kernel
theorem dX3_add_27 : decode cX3_add 27 = .ok (.iadd, 1) := by decide +kernel
theorem dX3_add_28 : decode cX3_add 28 = .ok (.putfield 22, 3) := by decide +kernel
theorem dX3_add_31 : decode cX3_add 31 = .ok (.iconst 1, 1) := by decide +kernel
theorem dX3_add_32 : decode cX3_add 32 = .ok (.ireturn, 1) := by decide +kernel
theorem dX3_read_0 : decode cX3_read 0 = .ok (.aload_n 0, 1) := by decide +kernel
theorem dX3_read_1 : decode cX3_read 1 = .ok (.getfield 18, 3) := by decide +kernel
theorem dX3_read_4 : decode cX3_read 4 = .ok (.invokevirtual 26, 3) := by decide +kernel
theorem dX3_read_7 : decode cX3_read 7 = .ok (.aload_n 0, 1) := by decide +kernel
theorem dX3_read_8 : decode cX3_read 8 = .ok (.iconst 0, 1) := by decide +kernel
theorem dX3_read_9 : decode cX3_read 9 = .ok (.putfield 29, 3) := by decide +kernel
theorem dX3_read_12 : decode cX3_read 12 = .ok (.aload_n 0, 1) := by decide +kernel
theorem dX3_read_13 : decode cX3_read 13 = .ok (.iconst 0, 1) := by decide +kernel
theorem dX3_read_14 : decode cX3_read 14 = .ok (.putfield 32, 3) := by decide +kernel
theorem dX3_read_17 : decode cX3_read 17 = .ok (.iconst 0, 1) := by decide +kernel
theorem dX3_read_18 : decode cX3_read 18 = .ok (.istore_n 1, 1) := by decide +kernel
theorem dX3_read_19 : decode cX3_read 19 = .ok (.iconst 0, 1) := by decide +kernel
theorem dX3_read_20 : decode cX3_read 20 = .ok (.istore_n 2, 1) := by decide +kernel
theorem dX3_read_21 : decode cX3_read 21 = .ok (.iload_n 2, 1) := by decide +kernel
theorem dX3_read_22 : decode cX3_read 22 = .ok (.aload_n 0, 1) := by decide +kernel
theorem dX3_read_23 : decode cX3_read 23 = .ok (.getfield 22, 3) := by decide +kernel
theorem dX3_read_26 : decode cX3_read 26 = .ok (.if_icmp .ge 32, 3) := by decide +kernel
theorem dX3_read_29 : decode cX3_read 29 = .ok (.aload_n 0, 1) := by decide +kernel
theorem dX3_read_30 : decode cX3_read 30 = .ok (.iload_n 2, 1) := by decide +kernel
theorem dX3_read_31 : decode cX3_read 31 = .ok (.invokevirtual 36, 3) := by decide +kernel
theorem dX3_read_34 : decode cX3_read 34 = .ok (.ifCond .eq 10, 3) := by decide +kernel
theorem dX3_read_37 : decode cX3_read 37 = .ok (.aload_n 0, 1) := by decide +kernel
theorem dX3_read_38 : decode cX3_read 38 = .ok (.iload_n 1, 1) := by decide +kernel
theorem dX3_read_39 : decode cX3_read 39 = .ok (.iload_n 2, 1) := by decide +kernel
theorem dX3_read_40 : decode cX3_read 40 = .ok (.invokevirtual 40, 3) := by decide +kernel
theorem dX3_read_43 : decode cX3_read 43 = .ok (.istore_n 1, 1) := by decide +kernel
theorem dX3_read_44 : decode cX3_read 44 = .ok (.iload_n 1, 1) := by decide +kernel
theorem dX3_read_45 : decode cX3_read 45 = .ok (.bipush 6, 2) := by decide +kernel
theorem dX3_read_47 : decode cX3_read 47 = .ok (.if_icmp .ne 5, 3) := by decide +kernel
theorem dX3_read_50 : decode cX3_read 50 = .ok (.iload_n 2, 1) := by decide +kernel
theorem dX3_read_51 : decode cX3_read 51 = .ok (.ireturn, 1) := by decide +kernel
theorem dX3_read_52 : decode cX3_read 52 = .ok (.iinc 2 1, 3) := by decide +kernel
theorem dX3_read_55 : decode cX3_read 55 = .ok (.goto (-34), 3) := by decide +kernel
theorem dX3_read_58 : decode cX3_read 58 = .ok (.iload_n 1, 1) := by decide +kernel
theorem dX3_read_59 : decode cX3_read 59 = .ok (.ifCond .ne 18, 3) := by decide +kernel
theorem dX3_read_62 : decode cX3_read 62 = .ok (.aload_n 0, 1) := by decide +kernel
theorem dX3_read_63 : decode cX3_read 63 = .ok (.getfield 18, 3) := by decide +kernel
theorem dX3_read_66 : decode cX3_read 66 = .ok (.getfield 44, 3) := by decide +kernel
theorem dX3_read_69 : decode cX3_read 69 = .ok (.iconst 3, 1) := by decide +kernel
theorem dX3_read_70 : decode cX3_read 70 = .ok (.if_icmp .lt 7, 3) := by decide +kernel
theorem dX3_read_73 : decode cX3_read 73 = .ok (.iconst (-1), 1) := by decide +kernel
theorem dX3_read_74 : decode cX3_read 74 = .ok (.goto 7, 3) := by decide +kernel
theorem dX3_read_77 : decode cX3_read 77 = .ok (.aload_n 0, 1) := by decide +kernel
theorem dX3_read_78 : decode cX3_read 78 = .ok (.getfield 22, 3) := by decide +kernel
theorem dX3_read_81 : decode cX3_read 81 = .ok (.ireturn, 1) := by decide +kernel
theorem dX3_startsToken_0 : decode cX3_startsToken 0 = .ok (.aload_n 0, 1) := by decide +kernel
theorem dX3_startsToken_1 : decode cX3_startsToken 1 = .ok (.getfield 9, 3) := by decide +kernel
theorem dX3_startsToken_4 : decode cX3_startsToken 4 = .ok (.iload_n 1, 1) := by decide +kernel
theorem dX3_startsToken_5 : decode cX3_startsToken 5 = .ok (.iaload, 1) := by decide +kernel
theorem dX3_startsToken_6 : decode cX3_startsToken 6 = .ok (.bipush 32, 2) := by decide +kernel
theorem dX3_startsToken_8 : decode cX3_startsToken 8 = .ok (.if_icmp .eq 25, 3) := by decide +kernel
theorem dX3_startsToken_11 : decode cX3_startsToken 11 = .ok (.aload_n 0, 1) := by decide +kernel
theorem dX3_startsToken_12 : decode cX3_startsToken 12 = .ok (.iload_n 1, 1) := by decide +kernel
theorem dX3_startsToken_13 : decode cX3_startsToken 13 = .ok (.invokevirtual 47, 3) := by decide +kernel
theorem dX3_startsToken_16 : decode cX3_startsToken 16 = .ok (.ifCond .eq 13, 3) := by decide +kernel
theorem dX3_startsToken_19 : decode cX3_startsToken 19 = .ok (.aload_n 0, 1) := by decide +kernel
theorem dX3_startsToken_20 : decode cX3_startsToken 20 = .ok (.iload_n 1, 1) := by decide +kernel
theorem dX3_startsToken_21 : decode cX3_startsToken 21 = .ok (.iconst 1, 1) := by decide +kernel
theorem dX3_startsToken_22 : decode cX3_startsToken 22 = .ok (.isub, 1) := by decide +kernel
theorem dX3_startsToken_23 : decode cX3_startsToken 23 = .ok (.invokevirtual 47, 3) := by decide +kernel
theorem dX3_startsToken_26 : decode cX3_startsToken 26 = .ok (.ifCond .ne 7, 3) := by decide +kernel
theorem dX3_startsToken_29 : decode cX3_startsToken 29 = .ok (.iconst 1, 1) := by decide +kernel
theorem dX3_startsToken_30 : decode cX3_startsToken 30 = .ok (.goto 4, 3) := by decide +kernel
theorem dX3_startsToken_33 : decode cX3_startsToken 33 = .ok (.iconst 0, 1) := by decide +kernel
theorem dX3_startsToken_34 : decode cX3_startsToken 34 = .ok (.ireturn, 1) := by decide +kernel
theorem dX3_isDigit_0 : decode cX3_isDigit 0 = .ok (.iload_n 1, 1) := by decide +kernel
theorem dX3_isDigit_1 : decode cX3_isDigit 1 = .ok (.ifCond .lt 37, 3) := by decide +kernel
theorem dX3_isDigit_4 : decode cX3_isDigit 4 = .ok (.iload_n 1, 1) := by decide +kernel
theorem dX3_isDigit_5 : decode cX3_isDigit 5 = .ok (.aload_n 0, 1) := by decide +kernel
theorem dX3_isDigit_6 : decode cX3_isDigit 6 = .ok (.getfield 22, 3) := by decide +kernel
theorem dX3_isDigit_9 : decode cX3_isDigit 9 = .ok (.if_icmp .ge 29, 3) := by decide +kernel
theorem dX3_isDigit_12 : decode cX3_isDigit 12 = .ok (.aload_n 0, 1) := by decide +kernel
theorem dX3_isDigit_13 : decode cX3_isDigit 13 = .ok (.getfield 9, 3) := by decide +kernel
theorem dX3_isDigit_16 : decode cX3_isDigit 16 = .ok (.iload_n 1, 1) := by decide +kernel
theorem dX3_isDigit_17 : decode cX3_isDigit 17 = .ok (.iaload, 1) := by decide +kernel
theorem dX3_isDigit_18 : decode cX3_isDigit 18 = .ok (.bipush 48, 2) := by decide +kernel
theorem dX3_isDigit_20 : decode cX3_isDigit 20 = .ok (.if_icmp .lt 18, 3) := by decide +kernel
theorem dX3_isDigit_23 : decode cX3_isDigit 23 = .ok (.aload_n 0, 1) := by decide +kernel
theorem dX3_isDigit_24 : decode cX3_isDigit 24 = .ok (.getfield 9, 3) := by decide +kernel
theorem dX3_isDigit_27 : decode cX3_isDigit 27 = .ok (.iload_n 1, 1) := by decide +kernel
theorem dX3_isDigit_28 : decode cX3_isDigit 28 = .ok (.iaload, 1) := by decide +kernel
theorem dX3_isDigit_29 : decode cX3_isDigit 29 = .ok (.bipush 57, 2) := by decide +kernel
theorem dX3_isDigit_31 : decode cX3_isDigit 31 = .ok (.if_icmp .gt 7, 3) := by decide +kernel
theorem dX3_isDigit_34 : decode cX3_isDigit 34 = .ok (.iconst 1, 1) := by decide +kernel
theorem dX3_isDigit_35 : decode cX3_isDigit 35 = .ok (.goto 4, 3) := by decide +kernel
theorem dX3_isDigit_38 : decode cX3_isDigit 38 = .ok (.iconst 0, 1) := by decide +kernel
theorem dX3_isDigit_39 : decode cX3_isDigit 39 = .ok (.ireturn, 1) := by decide +kernel
theorem dX3_dueBehind_0 : decode cX3_dueBehind 0 = .ok (.aload_n 0, 1) := by decide +kernel
theorem dX3_dueBehind_1 : decode cX3_dueBehind 1 = .ok (.iload_n 2, 1) := by decide +kernel
theorem dX3_dueBehind_2 : decode cX3_dueBehind 2 = .ok (.invokevirtual 47, 3) := by decide +kernel
theorem dX3_dueBehind_5 : decode cX3_dueBehind 5 = .ok (.ifCond .eq 14, 3) := by decide +kernel
theorem dX3_dueBehind_8 : decode cX3_dueBehind 8 = .ok (.aload_n 0, 1) := by decide +kernel
theorem dX3_dueBehind_9 : decode cX3_dueBehind 9 = .ok (.iload_n 1, 1) := by decide +kernel
theorem dX3_dueBehind_10 : decode cX3_dueBehind 10 = .ok (.aload_n 0, 1) := by decide +kernel
theorem dX3_dueBehind_11 : decode cX3_dueBehind 11 = .ok (.iload_n 2, 1) := by decide +kernel
theorem dX3_dueBehind_12 : decode cX3_dueBehind 12 = .ok (.invokevirtual 50, 3) := by decide +kernel
theorem dX3_dueBehind_15 : decode cX3_dueBehind 15 = .ok (.invokevirtual 54, 3) := by decide +kernel
theorem dX3_dueBehind_18 : decode cX3_dueBehind 18 = .ok (.ireturn, 1) := by decide +kernel
theorem dX3_dueBehind_19 : decode cX3_dueBehind 19 = .ok (.aload_n 0, 1) := by decide +kernel
theorem dX3_dueBehind_20 : decode cX3_dueBehind 20 = .ok (.getfield 9, 3) := by decide +kernel
theorem dX3_dueBehind_23 : decode cX3_dueBehind 23 = .ok (.iload_n 2, 1) := by decide +kernel
theorem dX3_dueBehind_24 : decode cX3_dueBehind 24 = .ok (.iaload, 1) := by decide +kernel
theorem dX3_dueBehind_25 : decode cX3_dueBehind 25 = .ok (.bipush 59, 2) := by decide +kernel
theorem dX3_dueBehind_27 : decode cX3_dueBehind 27 = .ok (.if_icmp .ne 20, 3) := by decide +kernel
theorem dX3_dueBehind_30 : decode cX3_dueBehind 30 = .ok (.iload_n 1, 1) := by decide +kernel
theorem dX3_dueBehind_31 : decode cX3_dueBehind 31 = .ok (.iconst 5, 1) := by decide +kernel
theorem dX3_dueBehind_32 : decode cX3_dueBehind 32 = .ok (.if_icmp .ne 15, 3) := by decide +kernel
theorem dX3_dueBehind_35 : decode cX3_dueBehind 35 = .ok (.aload_n 0, 1) := by decide +kernel
theorem dX3_dueBehind_36 : decode cX3_dueBehind 36 = .ok (.dup, 1) := by decide +kernel
theorem dX3_dueBehind_37 : decode cX3_dueBehind 37 = .ok (.getfield 29, 3) := by decide +kernel
theorem dX3_dueBehind_40 : decode cX3_dueBehind 40 = .ok (.iconst 1, 1) := by decide +kernel
theorem dX3_dueBehind_41 : decode cX3_dueBehind 41 = .ok (.iadd, 1) := by decide +kernel
theorem dX3_dueBehind_42 : decode cX3_dueBehind 42 = .ok (.putfield 29, 3) := by decide +kernel
theorem dX3_dueBehind_45 : decode cX3_dueBehind 45 = .ok (.iconst 0, 1) := by decide +kernel
theorem dX3_dueBehind_46 : decode cX3_dueBehind 46 = .ok (.ireturn, 1) := by decide +kernel
theorem dX3_dueBehind_47 : decode cX3_dueBehind 47 = .ok (.aload_n 0, 1) := by decide +kernel
theorem dX3_dueBehind_48 : decode cX3_dueBehind 48 = .ok (.getfield 9, 3) := by decide +kernel
theorem dX3_dueBehind_51 : decode cX3_dueBehind 51 = .ok (.iload_n 2, 1) := by decide +kernel
theorem dX3_dueBehind_52 : decode cX3_dueBehind 52 = .ok (.iaload, 1) := by decide +kernel
theorem dX3_dueBehind_53 : decode cX3_dueBehind 53 = .ok (.bipush 114, 2) := by decide +kernel
theorem dX3_dueBehind_55 : decode cX3_dueBehind 55 = .ok (.if_icmp .ne 21, 3) := by decide +kernel
theorem dX3_dueBehind_58 : decode cX3_dueBehind 58 = .ok (.iload_n 1, 1) := by decide +kernel
theorem dX3_dueBehind_59 : decode cX3_dueBehind 59 = .ok (.ifCond .ne 17, 3) := by decide +kernel
theorem dX3_dueBehind_62 : decode cX3_dueBehind 62 = .ok (.aload_n 0, 1) := by decide +kernel
theorem dX3_dueBehind_63 : decode cX3_dueBehind 63 = .ok (.getfield 18, 3) := by decide +kernel
theorem dX3_dueBehind_66 : decode cX3_dueBehind 66 = .ok (.getfield 44, 3) := by decide +kernel
theorem dX3_dueBehind_69 : decode cX3_dueBehind 69 = .ok (.bipush 8, 2) := by decide +kernel
theorem dX3_dueBehind_71 : decode cX3_dueBehind 71 = .ok (.if_icmp .ge 5, 3) := by decide +kernel
theorem dX3_dueBehind_74 : decode cX3_dueBehind 74 = .ok (.iconst 1, 1) := by decide +kernel
theorem dX3_dueBehind_75 : decode cX3_dueBehind 75 = .ok (.ireturn, 1) := by decide +kernel
theorem dX3_dueBehind_76 : decode cX3_dueBehind 76 = .ok (.aload_n 0, 1) := by decide +kernel
theorem dX3_dueBehind_77 : decode cX3_dueBehind 77 = .ok (.getfield 9, 3) := by decide +kernel
theorem dX3_dueBehind_80 : decode cX3_dueBehind 80 = .ok (.iload_n 2, 1) := by decide +kernel
theorem dX3_dueBehind_81 : decode cX3_dueBehind 81 = .ok (.iaload, 1) := by decide +kernel
theorem dX3_dueBehind_82 : decode cX3_dueBehind 82 = .ok (.bipush 100, 2) := by decide +kernel
theorem dX3_dueBehind_84 : decode cX3_dueBehind 84 = .ok (.if_icmp .ne 21, 3) := by decide +kernel
theorem dX3_dueBehind_87 : decode cX3_dueBehind 87 = .ok (.iload_n 1, 1) := by decide +kernel
theorem dX3_dueBehind_88 : decode cX3_dueBehind 88 = .ok (.ifCond .ne 17, 3) := by decide +kernel
theorem dX3_dueBehind_91 : decode cX3_dueBehind 91 = .ok (.aload_n 0, 1) := by decide +kernel
theorem dX3_dueBehind_92 : decode cX3_dueBehind 92 = .ok (.getfield 32, 3) := by decide +kernel
theorem dX3_dueBehind_95 : decode cX3_dueBehind 95 = .ok (.ifCond .ne 10, 3) := by decide +kernel
theorem dX3_dueBehind_98 : decode cX3_dueBehind 98 = .ok (.aload_n 0, 1) := by decide +kernel
theorem dX3_dueBehind_99 : decode cX3_dueBehind 99 = .ok (.iconst 1, 1) := by decide +kernel
theorem dX3_dueBehind_100 : decode cX3_dueBehind 100 = .ok (.putfield 32, 3) := by decide +kernel
theorem dX3_dueBehind_103 : decode cX3_dueBehind 103 = .ok (.iconst 4, 1) := by decide +kernel
theorem dX3_dueBehind_104 : decode cX3_dueBehind 104 = .ok (.ireturn, 1) := by decide +kernel
theorem dX3_dueBehind_105 : decode cX3_dueBehind 105 = .ok (.bipush 6, 2) := by decide +kernel
theorem dX3_dueBehind_107 : decode cX3_dueBehind 107 = .ok (.ireturn, 1) := by decide +kernel
theorem dX3_dueBehindNumber_0 : decode cX3_dueBehindNumber 0 = .ok (.iload_n 1, 1) := by decide +kernel
theorem dX3_dueBehindNumber_1 : decode cX3_dueBehindNumber 1 = .ok (.tableswitch 135 1 4 #[31, 53, 75, 111], 31) := by decide +kernel
theorem dX3_dueBehindNumber_32 : decode cX3_dueBehindNumber 32 = .ok (.aload_n 0, 1) := by decide +kernel
theorem dX3_dueBehindNumber_33 : decode cX3_dueBehindNumber 33 = .ok (.iload_n 2, 1) := by decide +kernel
theorem dX3_dueBehindNumber_34 : decode cX3_dueBehindNumber 34 = .ok (.putfield 57, 3) := by decide +kernel
theorem dX3_dueBehindNumber_37 : decode cX3_dueBehindNumber 37 = .ok (.iload_n 2, 1) := by decide +kernel
theorem dX3_dueBehindNumber_38 : decode cX3_dueBehindNumber 38 = .ok (.iconst 0, 1) := by decide +kernel
theorem dX3_dueBehindNumber_39 : decode cX3_dueBehindNumber 39 = .ok (.bipush 48, 2) := by decide +kernel
theorem dX3_dueBehindNumber_41 : decode cX3_dueBehindNumber 41 = .ok (.invokestatic 60, 3) := by decide +kernel
theorem dX3_dueBehindNumber_44 : decode cX3_dueBehindNumber 44 = .ok (.ifCond .eq 7, 3) := by decide +kernel
theorem dX3_dueBehindNumber_47 : decode cX3_dueBehindNumber 47 = .ok (.iconst 2, 1) := by decide +kernel
theorem dX3_dueBehindNumber_48 : decode cX3_dueBehindNumber 48 = .ok (.goto 5, 3) := by decide +kernel
theorem dX3_dueBehindNumber_51 : decode cX3_dueBehindNumber 51 = .ok (.bipush 6, 2) := by decide +kernel
theorem dX3_dueBehindNumber_53 : decode cX3_dueBehindNumber 53 = .ok (.ireturn, 1) := by decide +kernel
theorem dX3_dueBehindNumber_54 : decode cX3_dueBehindNumber 54 = .ok (.aload_n 0, 1) := by decide +kernel
theorem dX3_dueBehindNumber_55 : decode cX3_dueBehindNumber 55 = .ok (.iload_n 2, 1) := by decide +kernel
theorem dX3_dueBehindNumber_56 : decode cX3_dueBehindNumber 56 = .ok (.putfield 64, 3) := by decide +kernel
theorem dX3_dueBehindNumber_59 : decode cX3_dueBehindNumber 59 = .ok (.iload_n 2, 1) := by decide +kernel
theorem dX3_dueBehindNumber_60 : decode cX3_dueBehindNumber 60 = .ok (.iconst 1, 1) := by decide +kernel
theorem dX3_dueBehindNumber_61 : decode cX3_dueBehindNumber 61 = .ok (.bipush 9, 2) := by decide +kernel
theorem dX3_dueBehindNumber_63 : decode cX3_dueBehindNumber 63 = .ok (.invokestatic 60, 3) := by decide +kernel
theorem dX3_dueBehindNumber_66 : decode cX3_dueBehindNumber 66 = .ok (.ifCond .eq 7, 3) := by decide +kernel
theorem dX3_dueBehindNumber_69 : decode cX3_dueBehindNumber 69 = .ok (.iconst 3, 1) := by decide +kernel
theorem dX3_dueBehindNumber_70 : decode cX3_dueBehindNumber 70 = .ok (.goto 5, 3) := by decide +kernel
theorem dX3_dueBehindNumber_73 : decode cX3_dueBehindNumber 73 = .ok (.bipush 6, 2) := by decide +kernel
theorem dX3_dueBehindNumber_75 : decode cX3_dueBehindNumber 75 = .ok (.ireturn, 1) := by decide +kernel
theorem dX3_dueBehindNumber_76 : decode cX3_dueBehindNumber 76 = .ok (.iload_n 2, 1) := by decide +kernel
theorem dX3_dueBehindNumber_77 : decode cX3_dueBehindNumber 77 = .ok (.iconst 1, 1) := by decide +kernel
theorem dX3_dueBehindNumber_78 : decode cX3_dueBehindNumber 78 = .ok (.bipush 9, 2) := by decide +kernel
theorem dX3_dueBehindNumber_80 : decode cX3_dueBehindNumber 80 = .ok (.invokestatic 60, 3) := by decide +kernel
theorem dX3_dueBehindNumber_83 : decode cX3_dueBehindNumber 83 = .ok (.ifCond .eq 26, 3) := by decide +kernel
theorem dX3_dueBehindNumber_86 : decode cX3_dueBehindNumber 86 = .ok (.aload_n 0, 1) := by decide +kernel
theorem dX3_dueBehindNumber_87 : decode cX3_dueBehindNumber 87 = .ok (.getfield 18, 3) := by decide +kernel
theorem dX3_dueBehindNumber_90 : decode cX3_dueBehindNumber 90 = .ok (.aload_n 0, 1) := by decide +kernel
theorem dX3_dueBehindNumber_91 : decode cX3_dueBehindNumber 91 = .ok (.getfield 57, 3) := by decide +kernel
theorem dX3_dueBehindNumber_94 : decode cX3_dueBehindNumber 94 = .ok (.aload_n 0, 1) := by decide +kernel
theorem dX3_dueBehindNumber_95 : decode cX3_dueBehindNumber 95 = .ok (.getfield 64, 3) := by decide +kernel
theorem dX3_dueBehindNumber_98 : decode cX3_dueBehindNumber 98 = .ok (.iload_n 2, 1) := by decide +kernel
theorem dX3_dueBehindNumber_99 : decode cX3_dueBehindNumber 99 = .ok (.invokevirtual 67, 3) := by decide +kernel
theorem dX3_dueBehindNumber_102 : decode cX3_dueBehindNumber 102 = .ok (.ifCond .eq 7, 3) := by decide +kernel
theorem dX3_dueBehindNumber_105 : decode cX3_dueBehindNumber 105 = .ok (.iconst 5, 1) := by decide +kernel
theorem dX3_dueBehindNumber_106 : decode cX3_dueBehindNumber 106 = .ok (.goto 5, 3) := by decide +kernel
theorem dX3_dueBehindNumber_109 : decode cX3_dueBehindNumber 109 = .ok (.bipush 6, 2) := by decide +kernel
theorem dX3_dueBehindNumber_111 : decode cX3_dueBehindNumber 111 = .ok (.ireturn, 1) := by decide +kernel
theorem dX3_dueBehindNumber_112 : decode cX3_dueBehindNumber 112 = .ok (.aload_n 0, 1) := by decide +kernel
theorem dX3_dueBehindNumber_113 : decode cX3_dueBehindNumber 113 = .ok (.getfield 18, 3) := by decide +kernel
theorem dX3_dueBehindNumber_116 : decode cX3_dueBehindNumber 116 = .ok (.iload_n 2, 1) := by decide +kernel
theorem dX3_dueBehindNumber_117 : decode cX3_dueBehindNumber 117 = .ok (.putfield 70, 3) := by decide +kernel
theorem dX3_dueBehindNumber_120 : decode cX3_dueBehindNumber 120 = .ok (.iload_n 2, 1) := by decide +kernel
theorem dX3_dueBehindNumber_121 : decode cX3_dueBehindNumber 121 = .ok (.iconst 1, 1) := by decide +kernel
theorem dX3_dueBehindNumber_122 : decode cX3_dueBehindNumber 122 = .ok (.iconst 3, 1) := by decide +kernel
theorem dX3_dueBehindNumber_123 : decode cX3_dueBehindNumber 123 = .ok (.invokestatic 60, 3) := by decide +kernel
theorem dX3_dueBehindNumber_126 : decode cX3_dueBehindNumber 126 = .ok (.ifCond .eq 7, 3) := by decide +kernel
theorem dX3_dueBehindNumber_129 : decode cX3_dueBehindNumber 129 = .ok (.iconst 5, 1) := by decide +kernel
theorem dX3_dueBehindNumber_130 : decode cX3_dueBehindNumber 130 = .ok (.goto 5, 3) := by decide +kernel
theorem dX3_dueBehindNumber_133 : decode cX3_dueBehindNumber 133 = .ok (.bipush 6, 2) := by decide +kernel
theorem dX3_dueBehindNumber_135 : decode cX3_dueBehindNumber 135 = .ok (.ireturn, 1) := by decide +kernel
theorem dX3_dueBehindNumber_136 : decode cX3_dueBehindNumber 136 = .ok (.bipush 6, 2) := by decide +kernel
theorem dX3_dueBehindNumber_138 : decode cX3_dueBehindNumber 138 = .ok (.ireturn, 1) := by decide +kernel
theorem dX3_numberAt_0 : decode cX3_numberAt 0 = .ok (.aload_n 0, 1) := by decide +kernel
theorem dX3_numberAt_1 : decode cX3_numberAt 1 = .ok (.getfield 9, 3) := by decide +kernel
theorem dX3_numberAt_4 : decode cX3_numberAt 4 = .ok (.iload_n 1, 1) := by decide +kernel
theorem dX3_numberAt_5 : decode cX3_numberAt 5 = .ok (.iaload, 1) := by decide +kernel
theorem dX3_numberAt_6 : decode cX3_numberAt 6 = .ok (.bipush 48, 2) := by decide +kernel
theorem dX3_numberAt_8 : decode cX3_numberAt 8 = .ok (.isub, 1) := by decide +kernel
theorem dX3_numberAt_9 : decode cX3_numberAt 9 = .ok (.istore_n 2, 1) := by decide +kernel
theorem dX3_numberAt_10 : decode cX3_numberAt 10 = .ok (.aload_n 0, 1) := by decide +kernel
theorem dX3_numberAt_11 : decode cX3_numberAt 11 = .ok (.iload_n 1, 1) := by decide +kernel
theorem dX3_numberAt_12 : decode cX3_numberAt 12 = .ok (.iconst 1, 1) := by decide +kernel
theorem dX3_numberAt_13 : decode cX3_numberAt 13 = .ok (.iadd, 1) := by decide +kernel
theorem dX3_numberAt_14 : decode cX3_numberAt 14 = .ok (.invokevirtual 47, 3) := by decide +kernel
theorem dX3_numberAt_17 : decode cX3_numberAt 17 = .ok (.ifCond .ne 5, 3) := by decide +kernel
theorem dX3_numberAt_20 : decode cX3_numberAt 20 = .ok (.iload_n 2, 1) := by decide +kernel
theorem dX3_numberAt_21 : decode cX3_numberAt 21 = .ok (.ireturn, 1) := by decide +kernel
theorem dX3_numberAt_22 : decode cX3_numberAt 22 = .ok (.iload_n 2, 1) := by decide +kernel
theorem dX3_numberAt_23 : decode cX3_numberAt 23 = .ok (.ifCond .eq 13, 3) := by decide +kernel
theorem dX3_numberAt_26 : decode cX3_numberAt 26 = .ok (.aload_n 0, 1) := by decide +kernel
theorem dX3_numberAt_27 : decode cX3_numberAt 27 = .ok (.iload_n 1, 1) := by decide +kernel
theorem dX3_numberAt_28 : decode cX3_numberAt 28 = .ok (.iconst 2, 1) := by decide +kernel
theorem dX3_numberAt_29 : decode cX3_numberAt 29 = .ok (.iadd, 1) := by decide +kernel
theorem dX3_numberAt_30 : decode cX3_numberAt 30 = .ok (.invokevirtual 47, 3) := by decide +kernel
theorem dX3_numberAt_33 : decode cX3_numberAt 33 = .ok (.ifCond .eq 5, 3) := by decide +kernel
theorem dX3_numberAt_36 : decode cX3_numberAt 36 = .ok (.iconst (-1), 1) := by decide +kernel
theorem dX3_numberAt_37 : decode cX3_numberAt 37 = .ok (.ireturn, 1) := by decide +kernel
theorem dX3_numberAt_38 : decode cX3_numberAt 38 = .ok (.bipush 10, 2) := by decide +kernel
theorem dX3_numberAt_40 : decode cX3_numberAt 40 = .ok (.iload_n 2, 1) := by decide +kernel
theorem dX3_numberAt_41 : decode cX3_numberAt 41 = .ok (.imul, 1) := by decide +kernel
theorem dX3_numberAt_42 : decode cX3_numberAt 42 = .ok (.aload_n 0, 1) := by decide +kernel
theorem dX3_numberAt_43 : decode cX3_numberAt 43 = .ok (.getfield 9, 3) := by decide +kernel
theorem dX3_numberAt_46 : decode cX3_numberAt 46 = .ok (.iload_n 1, 1) := by decide +kernel
theorem dX3_numberAt_47 : decode cX3_numberAt 47 = .ok (.iconst 1, 1) := by decide +kernel
theorem dX3_numberAt_48 : decode cX3_numberAt 48 = .ok (.iadd, 1) := by decide +kernel
theorem dX3_numberAt_49 : decode cX3_numberAt 49 = .ok (.iaload, 1) := by decide +kernel
theorem dX3_numberAt_50 : decode cX3_numberAt 50 = .ok (.iadd, 1) := by decide +kernel
theorem dX3_numberAt_51 : decode cX3_numberAt 51 = .ok (.bipush 48, 2) := by decide +kernel
theorem dX3_numberAt_53 : decode cX3_numberAt 53 = .ok (.isub, 1) := by decide +kernel
theorem dX3_numberAt_54 : decode cX3_numberAt 54 = .ok (.ireturn, 1) := by decide +kernel
end
section
theorem dX4_init_0 : decode cX4_init 0 = .ok (.aload_n 0, 1) := by decide +kernel
theorem dX4_init_1 : decode cX4_init 1 = .ok (.invokespecial 1, 3) := by decide +kernel
theorem dX4_init_4 : decode cX4_init 4 = .ok (.aload_n 0, 1) := by decide +kernel
theorem dX4_init_5 : decode cX4_init 5 = .ok (.new 7, 3) := by decide +kernel
theorem dX4_init_8 : decode cX4_init 8 = .ok (.dup, 1) := by decide +kernel
theorem dX4_init_9 : decode cX4_init 9 = .ok (.invokespecial 9, 3) := by decide +kernel
theorem dX4_init_12 : decode cX4_init 12 = .ok (.putfield 10, 3) := by decide +kernel
theorem dX4_init_15 : decode cX4_init 15 = .ok (.aload_n 0, 1) := by decide +kernel
theorem dX4_init_16 : decode cX4_init 16 = .ok (.new 16, 3) := by decide +kernel
theorem dX4_init_19 : decode cX4_init 19 = .ok (.dup, 1) := by decide +kernel
theorem dX4_init_20 : decode cX4_init 20 = .ok (.invokespecial 18, 3) := by decide +kernel
theorem dX4_init_23 : decode cX4_init 23 = .ok (.putfield 19, 3) := by decide +kernel
theorem dX4_init_26 : decode cX4_init 26 = .ok (.aload_n 0, 1) := by decide +kernel
theorem dX4_init_27 : decode cX4_init 27 = .ok (.new 23, 3) := by decide +kernel
theorem dX4_init_30 : decode cX4_init 30 = .ok (.dup, 1) := by decide +kernel
theorem dX4_init_31 : decode cX4_init 31 = .ok (.aload_n 0, 1) := by decide +kernel
theorem dX4_init_32 : decode cX4_init 32 = .ok (.getfield 19, 3) := by decide +kernel
theorem dX4_init_35 : decode cX4_init 35 = .ok (.invokespecial 25, 3) := by decide +kernel
theorem dX4_init_38 : decode cX4_init 38 = .ok (.putfield 28, 3) := by decide +kernel
theorem dX4_init_41 : decode cX4_init 41 = .ok (.aload_n 0, 1) := by decide +kernel
theorem dX4_init_42 : decode cX4_init 42 = .ok (.new 32, 3) := by decide +kernel
theorem dX4_init_45 : decode cX4_init 45 = .ok (.dup, 1) := by decide +kernel
theorem dX4_init_46 : decode cX4_init 46 = .ok (.aload_n 0, 1) := by decide +kernel
theorem dX4_init_47 : decode cX4_init 47 = .ok (.getfield 19, 3) := by decide +kernel
theorem dX4_init_50 : decode cX4_init 50 = .ok (.invokespecial 34, 3) := by decide +kernel
theorem dX4_init_53 : decode cX4_init 53 = .ok (.putfield 35, 3) := by decide +kernel
theorem dX4_init_56 : decode cX4_init 56 = .ok (.aload_n 0, 1) := by decide +kernel
theorem dX4_init_57 : decode cX4_init 57 = .ok (.bipush 10, 2) := by decide +kernel
theorem dX4_init_59 : decode cX4_init 59 = .ok (.anewarray 23, 3) := by decide +kernel
theorem dX4_init_62 : decode cX4_init 62 = .ok (.putfield 39, 3) := by decide +kernel
theorem dX4_init_65 : decode cX4_init 65 = .ok (.aload_n 0, 1) := by decide +kernel
theorem dX4_init_66 : decode cX4_init 66 = .ok (.iconst 2, 1) := by decide +kernel
theorem dX4_init_67 : decode cX4_init 67 = .ok (.anewarray 23, 3) := by decide +kernel
theorem dX4_init_70 : decode cX4_init 70 = .ok (.putfield 43, 3) := by decide +kernel
theorem dX4_init_73 : decode cX4_init 73 = .ok (.aload_n 0, 1) := by decide +kernel
theorem dX4_init_74 : decode cX4_init 74 = .ok (.iconst 2, 1) := by decide +kernel
theorem dX4_init_75 : decode cX4_init 75 = .ok (.newarray .boolean, 2) := by decide +kernel
theorem dX4_init_77 : decode cX4_init 77 = .ok (.putfield 46, 3) := by decide +kernel
theorem dX4_init_80 : decode cX4_init 80 = .ok (.aload_n 0, 1) := by decide +kernel
theorem dX4_init_81 : decode cX4_init 81 = .ok (.bipush 6, 2) := by decide +kernel
theorem dX4_init_83 : decode cX4_init 83 = .ok (.newarray .int, 2) := by decide +kernel
theorem dX4_init_85 : decode cX4_init 85 = .ok (.putfield 50, 3) := by decide +kernel
theorem dX4_init_88 : decode cX4_init 88 = .ok (.aload_n 0, 1) := by decide +kernel
theorem dX4_init_89 : decode cX4_init 89 = .ok (.bipush 6, 2) := by decide +kernel
theorem dX4_init_91 : decode cX4_init 91 = .ok (.newarray .int, 2) := by decide +kernel
theorem dX4_init_93 : decode cX4_init 93 = .ok (.putfield 54, 3) := by decide +kernel
theorem dX4_init_96 : decode cX4_init 96 = .ok (.aload_n 0, 1) := by decide +kernel
theorem dX4_init_97 : decode cX4_init 97 = .ok (.bipush 6, 2) := by decide +kernel
theorem dX4_init_99 : decode cX4_init 99 = .ok (.newarray .boolean, 2) := by decide +kernel
theorem dX4_init_101 : decode cX4_init 101 = .ok (.putfield 57, 3) := by decide +kernel
theorem dX4_init_104 : decode cX4_init 104 = .ok (.aload_n 0, 1) := by decide +kernel
theorem dX4_init_105 : decode cX4_init 105 = .ok (.bipush 8, 2) := by decide +kernel
theorem dX4_init_107 : decode cX4_init 107 = .ok (.newarray .int, 2) := by decide +kernel
theorem dX4_init_109 : decode cX4_init 109 = .ok (.putfield 60, 3) := by decide +kernel
theorem dX4_init_112 : decode cX4_init 112 = .ok (.iconst 0, 1) := by decide +kernel
theorem dX4_init_113 : decode cX4_init 113 = .ok (.istore_n 1, 1) := by decide +kernel
theorem dX4_init_114 : decode cX4_init 114 = .ok (.iload_n 1, 1) := by decide +kernel
theorem dX4_init_115 : decode cX4_init 115 = .ok (.bipush 10, 2) := by decide +kernel
theorem dX4_init_117 : decode cX4_init 117 = .ok (.if_icmp .ge 26, 3) := by decide +kernel
theorem dX4_init_120 : decode cX4_init 120 = .ok (.aload_n 0, 1) := by decide +kernel
theorem dX4_init_121 : decode cX4_init 121 = .ok (.getfield 39, 3) := by decide +kernel
theorem dX4_init_124 : decode cX4_init 124 = .ok (.iload_n 1, 1) := by decide +kernel
theorem dX4_init_125 : decode cX4_init 125 = .ok (.new 23, 3) := by decide +kernel
theorem dX4_init_128 : decode cX4_init 128 = .ok (.dup, 1) := by decide +kernel
theorem dX4_init_129 : decode cX4_init 129 = .ok (.aload_n 0, 1) := by decide +kernel
theorem dX4_init_130 : decode cX4_init 130 = .ok (.getfield 19, 3) := by decide +kernel
theorem dX4_init_133 : decode cX4_init 133 = .ok (.invokespecial 25, 3) := by decide +kernel
theorem dX4_init_136 : decode cX4_init 136 = .ok (.aastore, 1) := by decide +kernel
theorem dX4_init_137 : decode cX4_init 137 = .ok (.iinc 1 1, 3) := by decide +kernel
theorem dX4_init_140 : decode cX4_init 140 = .ok (.goto (-26), 3) := by decide +kernel
theorem dX4_init_143 : decode cX4_init 143 = .ok (.iconst 0, 1) := by decide +kernel
theorem dX4_init_144 : decode cX4_init 144 = .ok (.istore_n 1, 1) := by decide +kernel
theorem dX4_init_145 : decode cX4_init 145 = .ok (.iload_n 1, 1) := by decide +kernel
theorem dX4_init_146 : decode cX4_init 146 = .ok (.iconst 2, 1) := by decide +kernel
theorem dX4_init_147 : decode cX4_init 147 = .ok (.if_icmp .ge 26, 3) := by decide +kernel
theorem dX4_init_150 : decode cX4_init 150 = .ok (.aload_n 0, 1) := by decide +kernel
theorem dX4_init_151 : decode cX4_init 151 = .ok (.getfield 43, 3) := by decide +kernel
theorem dX4_init_154 : decode cX4_init 154 = .ok (.iload_n 1, 1) := by decide +kernel
theorem dX4_init_155 : decode cX4_init 155 = .ok (.new 23, 3) := by decide +kernel
theorem dX4_init_158 : decode cX4_init 158 = .ok (.dup, 1) := by decide +kernel
theorem dX4_init_159 : decode cX4_init 159 = .ok (.aload_n 0, 1) := by decide +kernel
theorem dX4_init_160 : decode cX4_init 160 = .ok (.getfield 19, 3) := by decide +kernel
theorem dX4_init_163 : decode cX4_init 163 = .ok (.invokespecial 25, 3) := by decide +kernel
theorem dX4_init_166 : decode cX4_init 166 = .ok (.aastore, 1) := by decide +kernel
theorem dX4_init_167 : decode cX4_init 167 = .ok (.iinc 1 1, 3) := by decide +kernel
theorem dX4_init_170 : decode cX4_init 170 = .ok (.goto (-25), 3) := by decide +kernel
theorem dX4_init_173 : decode cX4_init 173 = .ok (.return_, 1) := by decide +kernel
theorem dX4_type_0 : decode cX4_type 0 = .ok (.iload_n 1, 1) := by decide +kernel
theorem dX4_type_1 : decode cX4_type 1 = .ok (.iconst 0, 1) := by decide +kernel
theorem dX4_type_2 : decode cX4_type 2 = .ok (.sipush 255, 3) := by decide +kernel
theorem dX4_type_5 : decode cX4_type 5 = .ok (.invokestatic 63, 3) := by decide +kernel
theorem dX4_type_8 : decode cX4_type 8 = .ok (.ifCond .ne 5, 3) := by decide +kernel
theorem dX4_type_11 : decode cX4_type 11 = .ok (.iconst (-1), 1) := by decide +kernel
theorem dX4_type_12 : decode cX4_type 12 = .ok (.ireturn, 1) := by decide +kernel
theorem dX4_type_13 : decode cX4_type 13 = .ok (.aload_n 0, 1) := by decide +kernel
theorem dX4_type_14 : decode cX4_type 14 = .ok (.getfield 10, 3) := by decide +kernel
theorem dX4_type_17 : decode cX4_type 17 = .ok (.iload_n 1, 1) := by decide +kernel
theorem dX4_type_18 : decode cX4_type 18 = .ok (.invokevirtual 67, 3) := by decide +kernel
theorem dX4_type_21 : decode cX4_type 21 = .ok (.ifCond .eq 13, 3) := by decide +kernel
theorem dX4_type_24 : decode cX4_type 24 = .ok (.aload_n 0, 1) := by decide +kernel
theorem dX4_type_25 : decode cX4_type 25 = .ok (.getfield 10, 3) := by decide +kernel
theorem dX4_type_28 : decode cX4_type 28 = .ok (.getfield 71, 3) := by decide +kernel
theorem dX4_type_31 : decode cX4_type 31 = .ok (.goto 5, 3) := by decide +kernel
theorem dX4_type_34 : decode cX4_type 34 = .ok (.bipush (-3), 2) := by decide +kernel
theorem dX4_type_36 : decode cX4_type 36 = .ok (.ireturn, 1) := by decide +kernel
theorem dX4_clear_0 : decode cX4_clear 0 = .ok (.aload_n 0, 1) := by decide +kernel
theorem dX4_clear_1 : decode cX4_clear 1 = .ok (.getfield 10, 3) := by decide +kernel
theorem dX4_clear_4 : decode cX4_clear 4 = .ok (.getfield 71, 3) := by decide +kernel
theorem dX4_clear_7 : decode cX4_clear 7 = .ok (.istore_n 1, 1) := by decide +kernel
theorem dX4_clear_8 : decode cX4_clear 8 = .ok (.aload_n 0, 1) := by decide +kernel
theorem dX4_clear_9 : decode cX4_clear 9 = .ok (.getfield 10, 3) := by decide +kernel
theorem dX4_clear_12 : decode cX4_clear 12 = .ok (.iconst 0, 1) := by decide +kernel
theorem dX4_clear_13 : decode cX4_clear 13 = .ok (.putfield 71, 3) := by decide +kernel
theorem dX4_clear_16 : decode cX4_clear 16 = .ok (.iload_n 1, 1) := by decide +kernel
theorem dX4_clear_17 : decode cX4_clear 17 = .ok (.ireturn, 1) := by decide +kernel
theorem dX4_chime_0 : decode cX4_chime 0 = .ok (.aload_n 0, 1) := by decide +kernel
theorem dX4_chime_1 : decode cX4_chime 1 = .ok (.getfield 10, 3) := by decide +kernel
theorem dX4_chime_4 : decode cX4_chime 4 = .ok (.invokevirtual 75, 3) := by decide +kernel
theorem dX4_chime_7 : decode cX4_chime 7 = .ok (.istore_n 1, 1) := by decide +kernel
theorem dX4_chime_8 : decode cX4_chime 8 = .ok (.iload_n 1, 1) := by decide +kernel
theorem dX4_chime_9 : decode cX4_chime 9 = .ok (.iconst (-1), 1) := by decide +kernel
theorem dX4_chime_10 : decode cX4_chime 10 = .ok (.if_icmp .eq 8, 3) := by decide +kernel
theorem dX4_chime_13 : decode cX4_chime 13 = .ok (.bipush (-10), 2) := by decide +kernel
theorem dX4_chime_15 : decode cX4_chime 15 = .ok (.iload_n 1, 1) := by decide +kernel
theorem dX4_chime_16 : decode cX4_chime 16 = .ok (.isub, 1) := by decide +kernel
theorem dX4_chime_17 : decode cX4_chime 17 = .ok (.ireturn, 1) := by decide +kernel
theorem dX4_chime_18 : decode cX4_chime 18 = .ok (.aload_n 0, 1) := by decide +kernel
theorem dX4_chime_19 : decode cX4_chime 19 = .ok (.getfield 19, 3) := by decide +kernel
theorem dX4_chime_22 : decode cX4_chime 22 = .ok (.aload_n 0, 1) := by decide +kernel
theorem dX4_chime_23 : decode cX4_chime 23 = .ok (.getfield 10, 3) := by decide +kernel
theorem dX4_chime_26 : decode cX4_chime 26 = .ok (.getfield 79, 3) := by decide +kernel
theorem dX4_chime_29 : decode cX4_chime 29 = .ok (.invokevirtual 82, 3) := by decide +kernel
theorem dX4_chime_32 : decode cX4_chime 32 = .ok (.aload_n 0, 1) := by decide +kernel
theorem dX4_chime_33 : decode cX4_chime 33 = .ok (.getfield 28, 3) := by decide +kernel
theorem dX4_chime_36 : decode cX4_chime 36 = .ok (.invokevirtual 85, 3) := by decide +kernel
theorem dX4_chime_39 : decode cX4_chime 39 = .ok (.aload_n 0, 1) := by decide +kernel
theorem dX4_chime_40 : decode cX4_chime 40 = .ok (.getfield 10, 3) := by decide +kernel
theorem dX4_chime_43 : decode cX4_chime 43 = .ok (.iconst 0, 1) := by decide +kernel
theorem dX4_chime_44 : decode cX4_chime 44 = .ok (.putfield 71, 3) := by decide +kernel
theorem dX4_chime_47 : decode cX4_chime 47 = .ok (.aload_n 0, 1) := by decide +kernel
theorem dX4_chime_48 : decode cX4_chime 48 = .ok (.iconst 0, 1) := by decide +kernel
theorem dX4_chime_49 : decode cX4_chime 49 = .ok (.putfield 88, 3) := by decide +kernel
theorem dX4_chime_52 : decode cX4_chime 52 = .ok (.aload_n 0, 1) := by decide +kernel
theorem dX4_chime_53 : decode cX4_chime 53 = .ok (.iconst 0, 1) := by decide +kernel
theorem dX4_chime_54 : decode cX4_chime 54 = .ok (.putfield 91, 3) := by decide +kernel
theorem dX4_chime_57 : decode cX4_chime 57 = .ok (.iconst 0, 1) := by decide +kernel
theorem dX4_chime_58 : decode cX4_chime 58 = .ok (.istore_n 2, 1) := by decide +kernel
theorem dX4_chime_59 : decode cX4_chime 59 = .ok (.iload_n 2, 1) := by decide +kernel
theorem dX4_chime_60 : decode cX4_chime 60 = .ok (.iconst 2, 1) := by decide +kernel
theorem dX4_chime_61 : decode cX4_chime 61 = .ok (.if_icmp .ge 16, 3) := by decide +kernel
theorem dX4_chime_64 : decode cX4_chime 64 = .ok (.aload_n 0, 1) := by decide +kernel
theorem dX4_chime_65 : decode cX4_chime 65 = .ok (.getfield 46, 3) := by decide +kernel
theorem dX4_chime_68 : decode cX4_chime 68 = .ok (.iload_n 2, 1) := by decide +kernel
theorem dX4_chime_69 : decode cX4_chime 69 = .ok (.iconst 0, 1) := by decide +kernel
theorem dX4_chime_70 : decode cX4_chime 70 = .ok (.bastore, 1) := by decide +kernel
theorem dX4_chime_71 : decode cX4_chime 71 = .ok (.iinc 2 1, 3) := by decide +kernel
theorem dX4_chime_74 : decode cX4_chime 74 = .ok (.goto (-15), 3) := by decide +kernel
theorem dX4_chime_77 : decode cX4_chime 77 = .ok (.aload_n 0, 1) := by decide +kernel
theorem dX4_chime_78 : decode cX4_chime 78 = .ok (.getfield 10, 3) := by decide +kernel
theorem dX4_chime_81 : decode cX4_chime 81 = .ok (.getfield 94, 3) := by decide +kernel
theorem dX4_chime_84 : decode cX4_chime 84 = .ok (.ireturn, 1) := by decide +kernel
theorem dX4_rod_0 : decode cX4_rod 0 = .ok (.aload_n 0, 1) := by decide +kernel
theorem dX4_rod_1 : decode cX4_rod 1 = .ok (.getfield 19, 3) := by decide +kernel
theorem dX4_rod_4 : decode cX4_rod 4 = .ok (.iload_n 1, 1) := by decide +kernel
theorem dX4_rod_5 : decode cX4_rod 5 = .ok (.invokevirtual 97, 3) := by decide +kernel
theorem dX4_rod_8 : decode cX4_rod 8 = .ok (.ifCond .ne 5, 3) := by decide +kernel
theorem dX4_rod_11 : decode cX4_rod 11 = .ok (.iconst (-1), 1) := by decide +kernel
theorem dX4_rod_12 : decode cX4_rod 12 = .ok (.ireturn, 1) := by decide +kernel
theorem dX4_rod_13 : decode cX4_rod 13 = .ok (.iload_n 2, 1) := by decide +kernel
theorem dX4_rod_14 : decode cX4_rod 14 = .ok (.tableswitch 84 0 4 #[34, 44, 54, 64, 74], 34) := by decide +kernel
theorem dX4_rod_48 : decode cX4_rod 48 = .ok (.aload_n 0, 1) := by decide +kernel
theorem dX4_rod_49 : decode cX4_rod 49 = .ok (.getfield 19, 3) := by decide +kernel
theorem dX4_rod_52 : decode cX4_rod 52 = .ok (.getfield 100, 3) := by decide +kernel
theorem dX4_rod_55 : decode cX4_rod 55 = .ok (.iload_n 1, 1) := by decide +kernel
theorem dX4_rod_56 : decode cX4_rod 56 = .ok (.iaload, 1) := by decide +kernel
theorem dX4_rod_57 : decode cX4_rod 57 = .ok (.ireturn, 1) := by decide +kernel
theorem dX4_rod_58 : decode cX4_rod 58 = .ok (.aload_n 0, 1) := by decide +kernel
theorem dX4_rod_59 : decode cX4_rod 59 = .ok (.getfield 19, 3) := by decide +kernel
theorem dX4_rod_62 : decode cX4_rod 62 = .ok (.getfield 103, 3) := by decide +kernel
theorem dX4_rod_65 : decode cX4_rod 65 = .ok (.iload_n 1, 1) := by decide +kernel
theorem dX4_rod_66 : decode cX4_rod 66 = .ok (.iaload, 1) := by decide +kernel
theorem dX4_rod_67 : decode cX4_rod 67 = .ok (.ireturn, 1) := by decide +kernel
theorem dX4_rod_68 : decode cX4_rod 68 = .ok (.aload_n 0, 1) := by decide +kernel
theorem dX4_rod_69 : decode cX4_rod 69 = .ok (.getfield 19, 3) := by decide +kernel
theorem dX4_rod_72 : decode cX4_rod 72 = .ok (.getfield 106, 3) := by decide +kernel
theorem dX4_rod_75 : decode cX4_rod 75 = .ok (.iload_n 1, 1) := by decide +kernel
theorem dX4_rod_76 : decode cX4_rod 76 = .ok (.iaload, 1) := by decide +kernel
theorem dX4_rod_77 : decode cX4_rod 77 = .ok (.ireturn, 1) := by decide +kernel
theorem dX4_rod_78 : decode cX4_rod 78 = .ok (.aload_n 0, 1) := by decide +kernel
theorem dX4_rod_79 : decode cX4_rod 79 = .ok (.getfield 28, 3) := by decide +kernel
theorem dX4_rod_82 : decode cX4_rod 82 = .ok (.getfield 109, 3) := by decide +kernel
theorem dX4_rod_85 : decode cX4_rod 85 = .ok (.iload_n 1, 1) := by decide +kernel
theorem dX4_rod_86 : decode cX4_rod 86 = .ok (.iaload, 1) := by decide +kernel
theorem dX4_rod_87 : decode cX4_rod 87 = .ok (.ireturn, 1) := by decide +kernel
theorem dX4_rod_88 : decode cX4_rod 88 = .ok (.aload_n 0, 1) := by decide +kernel
theorem dX4_rod_89 : decode cX4_rod 89 = .ok (.getfield 28, 3) := by decide +kernel
theorem dX4_rod_92 : decode cX4_rod 92 = .ok (.getfield 112, 3) := by decide +kernel
theorem dX4_rod_95 : decode cX4_rod 95 = .ok (.iload_n 1, 1) := by decide +kernel
theorem dX4_rod_96 : decode cX4_rod 96 = .ok (.iaload, 1) := by decide +kernel
theorem dX4_rod_97 : decode cX4_rod 97 = .ok (.ireturn, 1) := by decide +kernel
theorem dX4_rod_98 : decode cX4_rod 98 = .ok (.iconst (-1), 1) := by decide +kernel
theorem dX4_rod_99 : decode cX4_rod 99 = .ok (.ireturn, 1) := by decide +kernel
theorem dX4_side_0 : decode cX4_side 0 = .ok (.aload_n 0, 1) := by decide +kernel
theorem dX4_side_1 : decode cX4_side 1 = .ok (.iload_n 1, 1) := by decide +kernel
theorem dX4_side_2 : decode cX4_side 2 = .ok (.invokevirtual 115, 3) := by decide +kernel
theorem dX4_side_5 : decode cX4_side 5 = .ok (.ifCond .eq 14, 3) := by decide +kernel
theorem dX4_side_8 : decode cX4_side 8 = .ok (.aload_n 0, 1) := by decide +kernel
theorem dX4_side_9 : decode cX4_side 9 = .ok (.getfield 28, 3) := by decide +kernel
theorem dX4_side_12 : decode cX4_side 12 = .ok (.iload_n 1, 1) := by decide +kernel
theorem dX4_side_13 : decode cX4_side 13 = .ok (.invokevirtual 118, 3) := by decide +kernel
theorem dX4_side_16 : decode cX4_side 16 = .ok (.goto 4, 3) := by decide +kernel
theorem dX4_side_19 : decode cX4_side 19 = .ok (.iconst (-1), 1) := by decide +kernel
theorem dX4_side_20 : decode cX4_side 20 = .ok (.ireturn, 1) := by decide +kernel
theorem dX4_now_0 : decode cX4_now 0 = .ok (.iload_n 1, 1) := by decide +kernel
theorem dX4_now_1 : decode cX4_now 1 = .ok (.tableswitch 100 0 6 #[43, 51, 59, 67, 75, 83, 95], 43) := by decide +kernel
theorem dX4_now_44 : decode cX4_now 44 = .ok (.aload_n 0, 1) := by decide +kernel
theorem dX4_now_45 : decode cX4_now 45 = .ok (.getfield 28, 3) := by decide +kernel
theorem dX4_now_48 : decode cX4_now 48 = .ok (.getfield 122, 3) := by decide +kernel
theorem dX4_now_51 : decode cX4_now 51 = .ok (.ireturn, 1) := by decide +kernel
theorem dX4_now_52 : decode cX4_now 52 = .ok (.aload_n 0, 1) := by decide +kernel
theorem dX4_now_53 : decode cX4_now 53 = .ok (.getfield 28, 3) := by decide +kernel
theorem dX4_now_56 : decode cX4_now 56 = .ok (.getfield 125, 3) := by decide +kernel
theorem dX4_now_59 : decode cX4_now 59 = .ok (.ireturn, 1) := by decide +kernel
theorem dX4_now_60 : decode cX4_now 60 = .ok (.aload_n 0, 1) := by decide +kernel
theorem dX4_now_61 : decode cX4_now 61 = .ok (.getfield 28, 3) := by decide +kernel
theorem dX4_now_64 : decode cX4_now 64 = .ok (.getfield 128, 3) := by decide +kernel
theorem dX4_now_67 : decode cX4_now 67 = .ok (.ireturn, 1) := by decide +kernel
theorem dX4_now_68 : decode cX4_now 68 = .ok (.aload_n 0, 1) := by decide +kernel
theorem dX4_now_69 : decode cX4_now 69 = .ok (.getfield 28, 3) := by decide +kernel
theorem dX4_now_72 : decode cX4_now 72 = .ok (.invokevirtual 131, 3) := by decide +kernel
theorem dX4_now_75 : decode cX4_now 75 = .ok (.ireturn, 1) := by decide +kernel
theorem dX4_now_76 : decode cX4_now 76 = .ok (.aload_n 0, 1) := by decide +kernel
theorem dX4_now_77 : decode cX4_now 77 = .ok (.getfield 28, 3) := by decide +kernel
theorem dX4_now_80 : decode cX4_now 80 = .ok (.invokevirtual 134, 3) := by decide +kernel
theorem dX4_now_83 : decode cX4_now 83 = .ok (.ireturn, 1) := by decide +kernel
theorem dX4_now_84 : decode cX4_now 84 = .ok (.aload_n 0, 1) := by decide +kernel
theorem dX4_now_85 : decode cX4_now 85 = .ok (.getfield 35, 3) := by decide +kernel
theorem dX4_now_88 : decode cX4_now 88 = .ok (.aload_n 0, 1) := by decide +kernel
theorem dX4_now_89 : decode cX4_now 89 = .ok (.getfield 28, 3) := by decide +kernel
theorem dX4_now_92 : decode cX4_now 92 = .ok (.invokevirtual 137, 3) := by decide +kernel
theorem dX4_now_95 : decode cX4_now 95 = .ok (.ireturn, 1) := by decide +kernel
theorem dX4_now_96 : decode cX4_now 96 = .ok (.aload_n 0, 1) := by decide +kernel
theorem dX4_now_97 : decode cX4_now 97 = .ok (.getfield 91, 3) := by decide +kernel
theorem dX4_now_100 : decode cX4_now 100 = .ok (.ireturn, 1) := by decide +kernel
theorem dX4_now_101 : decode cX4_now 101 = .ok (.iconst (-1), 1) := by decide +kernel
theorem dX4_now_102 : decode cX4_now 102 = .ok (.ireturn, 1) := by decide +kernel
theorem dX4_blows_0 : decode cX4_blows 0 = .ok (.aload_n 0, 1) := by decide +kernel
theorem dX4_blows_1 : decode cX4_blows 1 = .ok (.iload_n 1, 1) := by decide +kernel
theorem dX4_blows_2 : decode cX4_blows 2 = .ok (.invokevirtual 115, 3) := by decide +kernel
theorem dX4_blows_5 : decode cX4_blows 5 = .ok (.ifCond .eq 10, 3) := by decide +kernel
theorem dX4_blows_8 : decode cX4_blows 8 = .ok (.iload_n 2, 1) := by decide +kernel
theorem dX4_blows_9 : decode cX4_blows 9 = .ok (.invokestatic 141, 3) := by decide +kernel
theorem dX4_blows_12 : decode cX4_blows 12 = .ok (.ifCond .ne 5, 3) := by decide +kernel
theorem dX4_blows_15 : decode cX4_blows 15 = .ok (.iconst (-1), 1) := by decide +kernel
theorem dX4_blows_16 : decode cX4_blows 16 = .ok (.ireturn, 1) := by decide +kernel
theorem dX4_blows_17 : decode cX4_blows 17 = .ok (.aload_n 0, 1) := by decide +kernel
theorem dX4_blows_18 : decode cX4_blows 18 = .ok (.getfield 28, 3) := by decide +kernel
theorem dX4_blows_21 : decode cX4_blows 21 = .ok (.getfield 122, 3) := by decide +kernel
theorem dX4_blows_24 : decode cX4_blows 24 = .ok (.sipush 999, 3) := by decide +kernel
theorem dX4_blows_27 : decode cX4_blows 27 = .ok (.if_icmp .lt 6, 3) := by decide +kernel
theorem dX4_blows_30 : decode cX4_blows 30 = .ok (.bipush (-2), 2) := by decide +kernel
theorem dX4_blows_32 : decode cX4_blows 32 = .ok (.ireturn, 1) := by decide +kernel
theorem dX4_blows_33 : decode cX4_blows 33 = .ok (.aload_n 0, 1) := by decide +kernel
theorem dX4_blows_34 : decode cX4_blows 34 = .ok (.invokevirtual 144, 3) := by decide +kernel
theorem dX4_blows_37 : decode cX4_blows 37 = .ok (.aload_n 0, 1) := by decide +kernel
theorem dX4_blows_38 : decode cX4_blows 38 = .ok (.getfield 28, 3) := by decide +kernel
theorem dX4_blows_41 : decode cX4_blows 41 = .ok (.iload_n 1, 1) := by decide +kernel
theorem dX4_blows_42 : decode cX4_blows 42 = .ok (.iload_n 2, 1) := by decide +kernel
theorem dX4_blows_43 : decode cX4_blows 43 = .ok (.invokevirtual 147, 3) := by decide +kernel
theorem dX4_blows_46 : decode cX4_blows 46 = .ok (.ireturn, 1) := by decide +kernel
theorem dX4_calms_0 : decode cX4_calms 0 = .ok (.aload_n 0, 1) := by decide +kernel
theorem dX4_calms_1 : decode cX4_calms 1 = .ok (.getfield 19, 3) := by decide +kernel
theorem dX4_calms_4 : decode cX4_calms 4 = .ok (.getfield 151, 3) := by decide +kernel
theorem dX4_calms_7 : decode cX4_calms 7 = .ok (.ifCond .eq 16, 3) := by decide +kernel
theorem dX4_calms_10 : decode cX4_calms 10 = .ok (.aload_n 0, 1) := by decide +kernel
theorem dX4_calms_11 : decode cX4_calms 11 = .ok (.getfield 28, 3) := by decide +kernel
theorem dX4_calms_14 : decode cX4_calms 14 = .ok (.getfield 122, 3) := by decide +kernel
theorem dX4_calms_17 : decode cX4_calms 17 = .ok (.sipush 999, 3) := by decide +kernel
theorem dX4_calms_20 : decode cX4_calms 20 = .ok (.if_icmp .lt 6, 3) := by decide +kernel
theorem dX4_calms_23 : decode cX4_calms 23 = .ok (.bipush (-2), 2) := by decide +kernel
theorem dX4_calms_25 : decode cX4_calms 25 = .ok (.ireturn, 1) := by decide +kernel
theorem dX4_calms_26 : decode cX4_calms 26 = .ok (.aload_n 0, 1) := by decide +kernel
theorem dX4_calms_27 : decode cX4_calms 27 = .ok (.invokevirtual 144, 3) := by decide +kernel
theorem dX4_calms_30 : decode cX4_calms 30 = .ok (.aload_n 0, 1) := by decide +kernel
theorem dX4_calms_31 : decode cX4_calms 31 = .ok (.getfield 28, 3) := by decide +kernel
theorem dX4_calms_34 : decode cX4_calms 34 = .ok (.invokevirtual 154, 3) := by decide +kernel
theorem dX4_calms_37 : decode cX4_calms 37 = .ok (.ireturn, 1) := by decide +kernel
theorem dX4_changes_0 : decode cX4_changes 0 = .ok (.aload_n 0, 1) := by decide +kernel
theorem dX4_changes_1 : decode cX4_changes 1 = .ok (.getfield 19, 3) := by decide +kernel
theorem dX4_changes_4 : decode cX4_changes 4 = .ok (.iload_n 1, 1) := by decide +kernel
theorem dX4_changes_5 : decode cX4_changes 5 = .ok (.invokevirtual 97, 3) := by decide +kernel
theorem dX4_changes_8 : decode cX4_changes 8 = .ok (.ifCond .eq 19, 3) := by decide +kernel
theorem dX4_changes_11 : decode cX4_changes 11 = .ok (.aload_n 0, 1) := by decide +kernel
theorem dX4_changes_12 : decode cX4_changes 12 = .ok (.getfield 19, 3) := by decide +kernel
theorem dX4_changes_15 : decode cX4_changes 15 = .ok (.iload_n 2, 1) := by decide +kernel
theorem dX4_changes_16 : decode cX4_changes 16 = .ok (.invokevirtual 97, 3) := by decide +kernel
theorem dX4_changes_19 : decode cX4_changes 19 = .ok (.ifCond .eq 8, 3) := by decide +kernel
theorem dX4_changes_22 : decode cX4_changes 22 = .ok (.iload_n 1, 1) := by decide +kernel
theorem dX4_changes_23 : decode cX4_changes 23 = .ok (.iload_n 2, 1) := by decide +kernel
theorem dX4_changes_24 : decode cX4_changes 24 = .ok (.if_icmp .ne 5, 3) := by decide +kernel
theorem dX4_changes_27 : decode cX4_changes 27 = .ok (.iconst (-1), 1) := by decide +kernel
theorem dX4_changes_28 : decode cX4_changes 28 = .ok (.ireturn, 1) := by decide +kernel
theorem dX4_changes_29 : decode cX4_changes 29 = .ok (.aload_n 0, 1) := by decide +kernel
theorem dX4_changes_30 : decode cX4_changes 30 = .ok (.invokevirtual 144, 3) := by decide +kernel
theorem dX4_changes_33 : decode cX4_changes 33 = .ok (.aload_n 0, 1) := by decide +kernel
theorem dX4_changes_34 : decode cX4_changes 34 = .ok (.getfield 28, 3) := by decide +kernel
theorem dX4_changes_37 : decode cX4_changes 37 = .ok (.iload_n 1, 1) := by decide +kernel
theorem dX4_changes_38 : decode cX4_changes 38 = .ok (.iload_n 2, 1) := by decide +kernel
theorem dX4_changes_39 : decode cX4_changes 39 = .ok (.invokevirtual 157, 3) := by decide +kernel
theorem dX4_changes_42 : decode cX4_changes 42 = .ok (.aload_n 0, 1) := by decide +kernel
theorem dX4_changes_43 : decode cX4_changes 43 = .ok (.getfield 28, 3) := by decide +kernel
theorem dX4_changes_46 : decode cX4_changes 46 = .ok (.invokevirtual 134, 3) := by decide +kernel
theorem dX4_changes_49 : decode cX4_changes 49 = .ok (.ireturn, 1) := by decide +kernel
theorem dX4_holds_0 : decode cX4_holds 0 = .ok (.aload_n 0, 1) := by decide +kernel
theorem dX4_holds_1 : decode cX4_holds 1 = .ok (.getfield 19, 3) := by decide +kernel
theorem dX4_holds_4 : decode cX4_holds 4 = .ok (.iload_n 1, 1) := by decide +kernel
theorem dX4_holds_5 : decode cX4_holds 5 = .ok (.invokevirtual 97, 3) := by decide +kernel
theorem dX4_holds_8 : decode cX4_holds 8 = .ok (.ifCond .ne 5, 3) := by decide +kernel
theorem dX4_holds_11 : decode cX4_holds 11 = .ok (.iconst (-1), 1) := by decide +kernel
theorem dX4_holds_12 : decode cX4_holds 12 = .ok (.ireturn, 1) := by decide +kernel
theorem dX4_holds_13 : decode cX4_holds 13 = .ok (.aload_n 0, 1) := by decide +kernel
theorem dX4_holds_14 : decode cX4_holds 14 = .ok (.getfield 28, 3) := by decide +kernel
theorem dX4_holds_17 : decode cX4_holds 17 = .ok (.getfield 112, 3) := by decide +kernel
theorem dX4_holds_20 : decode cX4_holds 20 = .ok (.iload_n 1, 1) := by decide +kernel
theorem dX4_holds_21 : decode cX4_holds 21 = .ok (.iaload, 1) := by decide +kernel
theorem dX4_holds_22 : decode cX4_holds 22 = .ok (.istore_n 2, 1) := by decide +kernel
theorem dX4_holds_23 : decode cX4_holds 23 = .ok (.iload_n 2, 1) := by decide +kernel
theorem dX4_holds_24 : decode cX4_holds 24 = .ok (.ifCond .ne 6, 3) := by decide +kernel
theorem dX4_holds_27 : decode cX4_holds 27 = .ok (.bipush (-2), 2) := by decide +kernel
theorem dX4_holds_29 : decode cX4_holds 29 = .ok (.ireturn, 1) := by decide +kernel
theorem dX4_holds_30 : decode cX4_holds 30 = .ok (.aload_n 0, 1) := by decide +kernel
theorem dX4_holds_31 : decode cX4_holds 31 = .ok (.invokevirtual 144, 3) := by decide +kernel
theorem dX4_holds_34 : decode cX4_holds 34 = .ok (.aload_n 0, 1) := by decide +kernel
theorem dX4_holds_35 : decode cX4_holds 35 = .ok (.getfield 28, 3) := by decide +kernel
theorem dX4_holds_38 : decode cX4_holds 38 = .ok (.getfield 112, 3) := by decide +kernel
theorem dX4_holds_41 : decode cX4_holds 41 = .ok (.iload_n 1, 1) := by decide +kernel
theorem dX4_holds_42 : decode cX4_holds 42 = .ok (.iconst 0, 1) := by decide +kernel
theorem dX4_holds_43 : decode cX4_holds 43 = .ok (.iastore, 1) := by decide +kernel
theorem dX4_holds_44 : decode cX4_holds 44 = .ok (.iload_n 2, 1) := by decide +kernel
theorem dX4_holds_45 : decode cX4_holds 45 = .ok (.ireturn, 1) := by decide +kernel
theorem dX4_undo_0 : decode cX4_undo 0 = .ok (.aload_n 0, 1) := by decide +kernel
theorem dX4_undo_1 : decode cX4_undo 1 = .ok (.getfield 91, 3) := by decide +kernel
theorem dX4_undo_4 : decode cX4_undo 4 = .ok (.ifCond .ne 6, 3) := by decide +kernel
theorem dX4_undo_7 : decode cX4_undo 7 = .ok (.bipush (-2), 2) := by decide +kernel
theorem dX4_undo_9 : decode cX4_undo 9 = .ok (.ireturn, 1) := by decide +kernel
theorem dX4_undo_10 : decode cX4_undo 10 = .ok (.aload_n 0, 1) := by decide +kernel
theorem dX4_undo_11 : decode cX4_undo 11 = .ok (.dup, 1) := by decide +kernel
theorem dX4_undo_12 : decode cX4_undo 12 = .ok (.getfield 91, 3) := by decide +kernel
theorem dX4_undo_15 : decode cX4_undo 15 = .ok (.iconst 1, 1) := by decide +kernel
theorem dX4_undo_16 : decode cX4_undo 16 = .ok (.isub, 1) := by decide +kernel
theorem dX4_undo_17 : decode cX4_undo 17 = .ok (.putfield 91, 3) := by decide +kernel
theorem dX4_undo_20 : decode cX4_undo 20 = .ok (.aload_n 0, 1) := by decide +kernel
theorem dX4_undo_21 : decode cX4_undo 21 = .ok (.aload_n 0, 1) := by decide +kernel
theorem dX4_undo_22 : decode cX4_undo 22 = .ok (.getfield 161, 3) := by decide +kernel
theorem dX4_undo_25 : decode cX4_undo 25 = .ok (.ifCond .le 12, 3) := by decide +kernel
theorem dX4_undo_28 : decode cX4_undo 28 = .ok (.aload_n 0, 1) := by decide +kernel
theorem dX4_undo_29 : decode cX4_undo 29 = .ok (.getfield 161, 3) := by decide +kernel
theorem dX4_undo_32 : decode cX4_undo 32 = .ok (.iconst 1, 1) := by decide +kernel
theorem dX4_undo_33 : decode cX4_undo 33 = .ok (.isub, 1) := by decide +kernel
theorem dX4_undo_34 : decode cX4_undo 34 = .ok (.goto 5, 3) := by decide +kernel
theorem dX4_undo_37 : decode cX4_undo 37 = .ok (.bipush 9, 2) := by decide +kernel
theorem dX4_undo_39 : decode cX4_undo 39 = .ok (.putfield 161, 3) := by decide +kernel
theorem dX4_undo_42 : decode cX4_undo 42 = .ok (.aload_n 0, 1) := by decide +kernel
theorem dX4_undo_43 : decode cX4_undo 43 = .ok (.getfield 28, 3) := by decide +kernel
theorem dX4_undo_46 : decode cX4_undo 46 = .ok (.aload_n 0, 1) := by decide +kernel
theorem dX4_undo_47 : decode cX4_undo 47 = .ok (.getfield 39, 3) := by decide +kernel
theorem dX4_undo_50 : decode cX4_undo 50 = .ok (.aload_n 0, 1) := by decide +kernel
theorem dX4_undo_51 : decode cX4_undo 51 = .ok (.getfield 161, 3) := by decide +kernel
theorem dX4_undo_54 : decode cX4_undo 54 = .ok (.aaload, 1) := by decide +kernel
theorem dX4_undo_55 : decode cX4_undo 55 = .ok (.invokevirtual 164, 3) := by decide +kernel
theorem dX4_undo_58 : decode cX4_undo 58 = .ok (.aload_n 0, 1) := by decide +kernel
theorem dX4_undo_59 : decode cX4_undo 59 = .ok (.getfield 91, 3) := by decide +kernel
theorem dX4_undo_62 : decode cX4_undo 62 = .ok (.ireturn, 1) := by decide +kernel
theorem dX4_remember_0 : decode cX4_remember 0 = .ok (.aload_n 0, 1) := by decide +kernel
theorem dX4_remember_1 : decode cX4_remember 1 = .ok (.getfield 39, 3) := by decide +kernel
theorem dX4_remember_4 : decode cX4_remember 4 = .ok (.aload_n 0, 1) := by decide +kernel
theorem dX4_remember_5 : decode cX4_remember 5 = .ok (.getfield 161, 3) := by decide +kernel
theorem dX4_remember_8 : decode cX4_remember 8 = .ok (.aaload, 1) := by decide +kernel
theorem dX4_remember_9 : decode cX4_remember 9 = .ok (.aload_n 0, 1) := by decide +kernel
theorem dX4_remember_10 : decode cX4_remember 10 = .ok (.getfield 28, 3) := by decide +kernel
theorem dX4_remember_13 : decode cX4_remember 13 = .ok (.invokevirtual 164, 3) := by decide +kernel
theorem dX4_remember_16 : decode cX4_remember 16 = .ok (.aload_n 0, 1) := by decide +kernel
theorem dX4_remember_17 : decode cX4_remember 17 = .ok (.aload_n 0, 1) := by decide +kernel
theorem dX4_remember_18 : decode cX4_remember 18 = .ok (.getfield 161, 3) := by decide +kernel
theorem dX4_remember_21 : decode cX4_remember 21 = .ok (.bipush 9, 2) := by decide +kernel
theorem dX4_remember_23 : decode cX4_remember 23 = .ok (.if_icmp .ge 12, 3) := by decide +kernel
theorem dX4_remember_26 : decode cX4_remember 26 = .ok (.aload_n 0, 1) := by decide +kernel
theorem dX4_remember_27 : decode cX4_remember 27 = .ok (.getfield 161, 3) := by decide +kernel
theorem dX4_remember_30 : decode cX4_remember 30 = .ok (.iconst 1, 1) := by decide +kernel
theorem dX4_remember_31 : decode cX4_remember 31 = .ok (.iadd, 1) := by decide +kernel
theorem dX4_remember_32 : decode cX4_remember 32 = .ok (.goto 4, 3) := by decide +kernel
theorem dX4_remember_35 : decode cX4_remember 35 = .ok (.iconst 0, 1) := by decide +kernel
theorem dX4_remember_36 : decode cX4_remember 36 = .ok (.putfield 161, 3) := by decide +kernel
theorem dX4_remember_39 : decode cX4_remember 39 = .ok (.aload_n 0, 1) := by decide +kernel
theorem dX4_remember_40 : decode cX4_remember 40 = .ok (.aload_n 0, 1) := by decide +kernel
theorem dX4_remember_41 : decode cX4_remember 41 = .ok (.getfield 91, 3) := by decide +kernel
theorem dX4_remember_44 : decode cX4_remember 44 = .ok (.iconst 1, 1) := by decide +kernel
theorem dX4_remember_45 : decode cX4_remember 45 = .ok (.iadd, 1) := by decide +kernel
theorem dX4_remember_46 : decode cX4_remember 46 = .ok (.bipush 10, 2) := by decide +kernel
theorem dX4_remember_48 : decode cX4_remember 48 = .ok (.invokestatic 168, 3) := by decide +kernel
theorem dX4_remember_51 : decode cX4_remember 51 = .ok (.putfield 91, 3) := by decide +kernel
theorem dX4_remember_54 : decode cX4_remember 54 = .ok (.return_, 1) := by decide +kernel
theorem dX4_comes_0 : decode cX4_comes 0 = .ok (.iload_n 1, 1) := by decide +kernel
theorem dX4_comes_1 : decode cX4_comes 1 = .ok (.invokestatic 173, 3) := by decide +kernel
theorem dX4_comes_4 : decode cX4_comes 4 = .ok (.ifCond .eq 12, 3) := by decide +kernel
theorem dX4_comes_7 : decode cX4_comes 7 = .ok (.iload_n 2, 1) := by decide +kernel
theorem dX4_comes_8 : decode cX4_comes 8 = .ok (.iconst 0, 1) := by decide +kernel
theorem dX4_comes_9 : decode cX4_comes 9 = .ok (.iconst 1, 1) := by decide +kernel
theorem dX4_comes_10 : decode cX4_comes 10 = .ok (.invokestatic 63, 3) := by decide +kernel
theorem dX4_comes_13 : decode cX4_comes 13 = .ok (.ifCond .ne 5, 3) := by decide +kernel
theorem dX4_comes_16 : decode cX4_comes 16 = .ok (.iconst (-1), 1) := by decide +kernel
theorem dX4_comes_17 : decode cX4_comes 17 = .ok (.ireturn, 1) := by decide +kernel
theorem dX4_comes_18 : decode cX4_comes 18 = .ok (.aload_n 0, 1) := by decide +kernel
theorem dX4_comes_19 : decode cX4_comes 19 = .ok (.getfield 35, 3) := by decide +kernel
theorem dX4_comes_22 : decode cX4_comes 22 = .ok (.aload_n 0, 1) := by decide +kernel
theorem dX4_comes_23 : decode cX4_comes 23 = .ok (.getfield 28, 3) := by decide +kernel
theorem dX4_comes_26 : decode cX4_comes 26 = .ok (.invokevirtual 176, 3) := by decide +kernel
theorem dX4_comes_29 : decode cX4_comes 29 = .ok (.aload_n 0, 1) := by decide +kernel
theorem dX4_comes_30 : decode cX4_comes 30 = .ok (.getfield 35, 3) := by decide +kernel
theorem dX4_comes_33 : decode cX4_comes 33 = .ok (.bipush (-9), 2) := by decide +kernel
theorem dX4_comes_35 : decode cX4_comes 35 = .ok (.invokevirtual 178, 3) := by decide +kernel
theorem dX4_comes_38 : decode cX4_comes 38 = .ok (.aload_n 0, 1) := by decide +kernel
theorem dX4_comes_39 : decode cX4_comes 39 = .ok (.getfield 35, 3) := by decide +kernel
theorem dX4_comes_42 : decode cX4_comes 42 = .ok (.iload_n 1, 1) := by decide +kernel
theorem dX4_comes_43 : decode cX4_comes 43 = .ok (.invokevirtual 182, 3) := by decide +kernel
theorem dX4_comes_46 : decode cX4_comes 46 = .ok (.iload_n 2, 1) := by decide +kernel
theorem dX4_comes_47 : decode cX4_comes 47 = .ok (.ifCond .ne 13, 3) := by decide +kernel
theorem dX4_comes_50 : decode cX4_comes 50 = .ok (.aload_n 0, 1) := by decide +kernel
theorem dX4_comes_51 : decode cX4_comes 51 = .ok (.getfield 35, 3) := by decide +kernel
theorem dX4_comes_54 : decode cX4_comes 54 = .ok (.getfield 185, 3) := by decide +kernel
theorem dX4_comes_57 : decode cX4_comes 57 = .ok (.goto 10, 3) := by decide +kernel
theorem dX4_comes_60 : decode cX4_comes 60 = .ok (.aload_n 0, 1) := by decide +kernel
theorem dX4_comes_61 : decode cX4_comes 61 = .ok (.getfield 35, 3) := by decide +kernel
theorem dX4_comes_64 : decode cX4_comes 64 = .ok (.getfield 188, 3) := by decide +kernel
theorem dX4_comes_67 : decode cX4_comes 67 = .ok (.ireturn, 1) := by decide +kernel
theorem dX4_best_0 : decode cX4_best 0 = .ok (.iload_n 1, 1) := by decide +kernel
theorem dX4_best_1 : decode cX4_best 1 = .ok (.invokestatic 173, 3) := by decide +kernel
theorem dX4_best_4 : decode cX4_best 4 = .ok (.ifCond .eq 12, 3) := by decide +kernel
theorem dX4_best_7 : decode cX4_best 7 = .ok (.iload_n 2, 1) := by decide +kernel
theorem dX4_best_8 : decode cX4_best 8 = .ok (.iconst 0, 1) := by decide +kernel
theorem dX4_best_9 : decode cX4_best 9 = .ok (.iconst 1, 1) := by decide +kernel
theorem dX4_best_10 : decode cX4_best 10 = .ok (.invokestatic 63, 3) := by decide +kernel
theorem dX4_best_13 : decode cX4_best 13 = .ok (.ifCond .ne 5, 3) := by decide +kernel
theorem dX4_best_16 : decode cX4_best 16 = .ok (.iconst (-1), 1) := by decide +kernel
theorem dX4_best_17 : decode cX4_best 17 = .ok (.ireturn, 1) := by decide +kernel
theorem dX4_best_18 : decode cX4_best 18 = .ok (.bipush (-9), 2) := by decide +kernel
theorem dX4_best_20 : decode cX4_best 20 = .ok (.istore_n 3, 1) := by decide +kernel
theorem dX4_best_21 : decode cX4_best 21 = .ok (.sipush (-1000), 3) := by decide +kernel
theorem dX4_best_24 : decode cX4_best 24 = .ok (.istore 4, 2) := by decide +kernel
theorem dX4_best_26 : decode cX4_best 26 = .ok (.iconst 0, 1) := by decide +kernel
theorem dX4_best_27 : decode cX4_best 27 = .ok (.istore 5, 2) := by decide +kernel
theorem dX4_best_29 : decode cX4_best 29 = .ok (.iload 5, 2) := by decide +kernel
theorem dX4_best_31 : decode cX4_best 31 = .ok (.aload_n 0, 1) := by decide +kernel
theorem dX4_best_32 : decode cX4_best 32 = .ok (.getfield 19, 3) := by decide +kernel
theorem dX4_best_35 : decode cX4_best 35 = .ok (.getfield 151, 3) := by decide +kernel
theorem dX4_best_38 : decode cX4_best 38 = .ok (.if_icmp .ge 76, 3) := by decide +kernel
theorem dX4_best_41 : decode cX4_best 41 = .ok (.iconst 1, 1) := by decide +kernel
theorem dX4_best_42 : decode cX4_best 42 = .ok (.istore 6, 2) := by decide +kernel
theorem dX4_best_44 : decode cX4_best 44 = .ok (.iload 6, 2) := by decide +kernel
theorem dX4_best_46 : decode cX4_best 46 = .ok (.bipush 9, 2) := by decide +kernel
theorem dX4_best_48 : decode cX4_best 48 = .ok (.if_icmp .gt 60, 3) := by decide +kernel
theorem dX4_best_51 : decode cX4_best 51 = .ok (.aload_n 0, 1) := by decide +kernel
theorem dX4_best_52 : decode cX4_best 52 = .ok (.iload 5, 2) := by decide +kernel
theorem dX4_best_54 : decode cX4_best 54 = .ok (.iload 6, 2) := by decide +kernel
theorem dX4_best_56 : decode cX4_best 56 = .ok (.iload_n 1, 1) := by decide +kernel
theorem dX4_best_57 : decode cX4_best 57 = .ok (.invokevirtual 191, 3) := by decide +kernel
theorem dX4_best_60 : decode cX4_best 60 = .ok (.iload_n 2, 1) := by decide +kernel
theorem dX4_best_61 : decode cX4_best 61 = .ok (.ifCond .ne 13, 3) := by decide +kernel
theorem dX4_best_64 : decode cX4_best 64 = .ok (.aload_n 0, 1) := by decide +kernel
theorem dX4_best_65 : decode cX4_best 65 = .ok (.getfield 35, 3) := by decide +kernel
theorem dX4_best_68 : decode cX4_best 68 = .ok (.invokevirtual 195, 3) := by decide +kernel
theorem dX4_best_71 : decode cX4_best 71 = .ok (.goto 10, 3) := by decide +kernel
theorem dX4_best_74 : decode cX4_best 74 = .ok (.aload_n 0, 1) := by decide +kernel
theorem dX4_best_75 : decode cX4_best 75 = .ok (.getfield 35, 3) := by decide +kernel
theorem dX4_best_78 : decode cX4_best 78 = .ok (.invokevirtual 198, 3) := by decide +kernel
theorem dX4_best_81 : decode cX4_best 81 = .ok (.istore 7, 2) := by decide +kernel
theorem dX4_best_83 : decode cX4_best 83 = .ok (.iload 7, 2) := by decide +kernel
theorem dX4_best_85 : decode cX4_best 85 = .ok (.iload 4, 2) := by decide +kernel
theorem dX4_best_87 : decode cX4_best 87 = .ok (.if_icmp .le 15, 3) := by decide +kernel
theorem dX4_best_90 : decode cX4_best 90 = .ok (.iload 5, 2) := by decide +kernel
theorem dX4_best_92 : decode cX4_best 92 = .ok (.iload 6, 2) := by decide +kernel
theorem dX4_best_94 : decode cX4_best 94 = .ok (.invokestatic 201, 3) := by decide +kernel
theorem dX4_best_97 : decode cX4_best 97 = .ok (.istore_n 3, 1) := by decide +kernel
theorem dX4_best_98 : decode cX4_best 98 = .ok (.iload 7, 2) := by decide +kernel
theorem dX4_best_100 : decode cX4_best 100 = .ok (.istore 4, 2) := by decide +kernel
theorem dX4_best_102 : decode cX4_best 102 = .ok (.iinc 6 1, 3) := by decide +kernel
theorem dX4_best_105 : decode cX4_best 105 = .ok (.goto (-61), 3) := by decide +kernel
theorem dX4_best_108 : decode cX4_best 108 = .ok (.iinc 5 1, 3) := by decide +kernel
theorem dX4_best_111 : decode cX4_best 111 = .ok (.goto (-82), 3) := by decide +kernel
theorem dX4_best_114 : decode cX4_best 114 = .ok (.iload_n 3, 1) := by decide +kernel
theorem dX4_best_115 : decode cX4_best 115 = .ok (.ireturn, 1) := by decide +kernel
theorem dX4_swap_0 : decode cX4_swap 0 = .ok (.aload_n 0, 1) := by decide +kernel
theorem dX4_swap_1 : decode cX4_swap 1 = .ok (.iload_n 1, 1) := by decide +kernel
theorem dX4_swap_2 : decode cX4_swap 2 = .ok (.invokevirtual 115, 3) := by decide +kernel
theorem dX4_swap_5 : decode cX4_swap 5 = .ok (.ifCond .eq 17, 3) := by decide +kernel
theorem dX4_swap_8 : decode cX4_swap 8 = .ok (.iload_n 2, 1) := by decide +kernel
theorem dX4_swap_9 : decode cX4_swap 9 = .ok (.invokestatic 141, 3) := by decide +kernel
theorem dX4_swap_12 : decode cX4_swap 12 = .ok (.ifCond .eq 10, 3) := by decide +kernel
theorem dX4_swap_15 : decode cX4_swap 15 = .ok (.iload_n 3, 1) := by decide +kernel
theorem dX4_swap_16 : decode cX4_swap 16 = .ok (.invokestatic 173, 3) := by decide +kernel
theorem dX4_swap_19 : decode cX4_swap 19 = .ok (.ifCond .ne 5, 3) := by decide +kernel
theorem dX4_swap_22 : decode cX4_swap 22 = .ok (.iconst (-1), 1) := by decide +kernel
theorem dX4_swap_23 : decode cX4_swap 23 = .ok (.ireturn, 1) := by decide +kernel
theorem dX4_swap_24 : decode cX4_swap 24 = .ok (.aload_n 0, 1) := by decide +kernel
theorem dX4_swap_25 : decode cX4_swap 25 = .ok (.iload_n 1, 1) := by decide +kernel
theorem dX4_swap_26 : decode cX4_swap 26 = .ok (.iload_n 2, 1) := by decide +kernel
theorem dX4_swap_27 : decode cX4_swap 27 = .ok (.iload_n 3, 1) := by decide +kernel
theorem dX4_swap_28 : decode cX4_swap 28 = .ok (.invokevirtual 191, 3) := by decide +kernel
theorem dX4_swap_31 : decode cX4_swap 31 = .ok (.aload_n 0, 1) := by decide +kernel
theorem dX4_swap_32 : decode cX4_swap 32 = .ok (.getfield 35, 3) := by decide +kernel
theorem dX4_swap_35 : decode cX4_swap 35 = .ok (.getfield 188, 3) := by decide +kernel
theorem dX4_swap_38 : decode cX4_swap 38 = .ok (.istore 4, 2) := by decide +kernel
theorem dX4_swap_40 : decode cX4_swap 40 = .ok (.bipush (-9), 2) := by decide +kernel
theorem dX4_swap_42 : decode cX4_swap 42 = .ok (.istore 5, 2) := by decide +kernel
theorem dX4_swap_44 : decode cX4_swap 44 = .ok (.iconst 0, 1) := by decide +kernel
theorem dX4_swap_45 : decode cX4_swap 45 = .ok (.istore 6, 2) := by decide +kernel
theorem dX4_swap_47 : decode cX4_swap 47 = .ok (.iload 6, 2) := by decide +kernel
theorem dX4_swap_49 : decode cX4_swap 49 = .ok (.aload_n 0, 1) := by decide +kernel
theorem dX4_swap_50 : decode cX4_swap 50 = .ok (.getfield 19, 3) := by decide +kernel
theorem dX4_swap_53 : decode cX4_swap 53 = .ok (.getfield 151, 3) := by decide +kernel
theorem dX4_swap_56 : decode cX4_swap 56 = .ok (.if_icmp .ge 75, 3) := by decide +kernel
theorem dX4_swap_59 : decode cX4_swap 59 = .ok (.iload 6, 2) := by decide +kernel
theorem dX4_swap_61 : decode cX4_swap 61 = .ok (.iconst 1, 1) := by decide +kernel
theorem dX4_swap_62 : decode cX4_swap 62 = .ok (.iadd, 1) := by decide +kernel
theorem dX4_swap_63 : decode cX4_swap 63 = .ok (.istore 7, 2) := by decide +kernel
theorem dX4_swap_65 : decode cX4_swap 65 = .ok (.iload 7, 2) := by decide +kernel
theorem dX4_swap_67 : decode cX4_swap 67 = .ok (.aload_n 0, 1) := by decide +kernel
theorem dX4_swap_68 : decode cX4_swap 68 = .ok (.getfield 19, 3) := by decide +kernel
theorem dX4_swap_71 : decode cX4_swap 71 = .ok (.getfield 151, 3) := by decide +kernel
theorem dX4_swap_74 : decode cX4_swap 74 = .ok (.if_icmp .ge 51, 3) := by decide +kernel
theorem dX4_swap_77 : decode cX4_swap 77 = .ok (.aload_n 0, 1) := by decide +kernel
theorem dX4_swap_78 : decode cX4_swap 78 = .ok (.iload 6, 2) := by decide +kernel
theorem dX4_swap_80 : decode cX4_swap 80 = .ok (.iload 7, 2) := by decide +kernel
theorem dX4_swap_82 : decode cX4_swap 82 = .ok (.iload_n 1, 1) := by decide +kernel
theorem dX4_swap_83 : decode cX4_swap 83 = .ok (.iload_n 2, 1) := by decide +kernel
theorem dX4_swap_84 : decode cX4_swap 84 = .ok (.iload_n 3, 1) := by decide +kernel
theorem dX4_swap_85 : decode cX4_swap 85 = .ok (.invokevirtual 204, 3) := by decide +kernel
theorem dX4_swap_88 : decode cX4_swap 88 = .ok (.aload_n 0, 1) := by decide +kernel
theorem dX4_swap_89 : decode cX4_swap 89 = .ok (.getfield 35, 3) := by decide +kernel
theorem dX4_swap_92 : decode cX4_swap 92 = .ok (.getfield 188, 3) := by decide +kernel
theorem dX4_swap_95 : decode cX4_swap 95 = .ok (.iload 4, 2) := by decide +kernel
theorem dX4_swap_97 : decode cX4_swap 97 = .ok (.if_icmp .ge 22, 3) := by decide +kernel
theorem dX4_swap_100 : decode cX4_swap 100 = .ok (.bipush 10, 2) := by decide +kernel
theorem dX4_swap_102 : decode cX4_swap 102 = .ok (.iload 6, 2) := by decide +kernel
theorem dX4_swap_104 : decode cX4_swap 104 = .ok (.imul, 1) := by decide +kernel
theorem dX4_swap_105 : decode cX4_swap 105 = .ok (.iload 7, 2) := by decide +kernel
theorem dX4_swap_107 : decode cX4_swap 107 = .ok (.iadd, 1) := by decide +kernel
theorem dX4_swap_108 : decode cX4_swap 108 = .ok (.istore 5, 2) := by decide +kernel
theorem dX4_swap_110 : decode cX4_swap 110 = .ok (.aload_n 0, 1) := by decide +kernel
theorem dX4_swap_111 : decode cX4_swap 111 = .ok (.getfield 35, 3) := by decide +kernel
theorem dX4_swap_114 : decode cX4_swap 114 = .ok (.getfield 188, 3) := by decide +kernel
theorem dX4_swap_117 : decode cX4_swap 117 = .ok (.istore 4, 2) := by decide +kernel
theorem dX4_swap_119 : decode cX4_swap 119 = .ok (.iinc 7 1, 3) := by decide +kernel
theorem dX4_swap_122 : decode cX4_swap 122 = .ok (.goto (-57), 3) := by decide +kernel
theorem dX4_swap_125 : decode cX4_swap 125 = .ok (.iinc 6 1, 3) := by decide +kernel
theorem dX4_swap_128 : decode cX4_swap 128 = .ok (.goto (-81), 3) := by decide +kernel
theorem dX4_swap_131 : decode cX4_swap 131 = .ok (.iload 5, 2) := by decide +kernel
theorem dX4_swap_133 : decode cX4_swap 133 = .ok (.ireturn, 1) := by decide +kernel
theorem dX4_odds_0 : decode cX4_odds 0 = .ok (.iload_n 1, 1) := by decide +kernel
theorem dX4_odds_1 : decode cX4_odds 1 = .ok (.invokestatic 141, 3) := by decide +kernel
theorem dX4_odds_4 : decode cX4_odds 4 = .ok (.ifCond .eq 31, 3) := by decide +kernel
theorem dX4_odds_7 : decode cX4_odds 7 = .ok (.iload_n 2, 1) := by decide +kernel
theorem dX4_odds_8 : decode cX4_odds 8 = .ok (.invokestatic 173, 3) := by decide +kernel
theorem dX4_odds_11 : decode cX4_odds 11 = .ok (.ifCond .eq 24, 3) := by decide +kernel
theorem dX4_odds_14 : decode cX4_odds 14 = .ok (.aload_n 0, 1) := by decide +kernel
theorem dX4_odds_15 : decode cX4_odds 15 = .ok (.getfield 19, 3) := by decide +kernel
theorem dX4_odds_18 : decode cX4_odds 18 = .ok (.iload_n 3, 1) := by decide +kernel
theorem dX4_odds_19 : decode cX4_odds 19 = .ok (.invokevirtual 97, 3) := by decide +kernel
theorem dX4_odds_22 : decode cX4_odds 22 = .ok (.ifCond .eq 13, 3) := by decide +kernel
theorem dX4_odds_25 : decode cX4_odds 25 = .ok (.iload 4, 2) := by decide +kernel
theorem dX4_odds_27 : decode cX4_odds 27 = .ok (.iconst 0, 1) := by decide +kernel
theorem dX4_odds_28 : decode cX4_odds 28 = .ok (.iconst 1, 1) := by decide +kernel
theorem dX4_odds_29 : decode cX4_odds 29 = .ok (.invokestatic 63, 3) := by decide +kernel
theorem dX4_odds_32 : decode cX4_odds 32 = .ok (.ifCond .ne 5, 3) := by decide +kernel
theorem dX4_odds_35 : decode cX4_odds 35 = .ok (.iconst (-1), 1) := by decide +kernel
theorem dX4_odds_36 : decode cX4_odds 36 = .ok (.ireturn, 1) := by decide +kernel
theorem dX4_odds_37 : decode cX4_odds 37 = .ok (.iconst 0, 1) := by decide +kernel
theorem dX4_odds_38 : decode cX4_odds 38 = .ok (.istore 5, 2) := by decide +kernel
theorem dX4_odds_40 : decode cX4_odds 40 = .ok (.iconst 0, 1) := by decide +kernel
theorem dX4_odds_41 : decode cX4_odds 41 = .ok (.istore 6, 2) := by decide +kernel
theorem dX4_odds_43 : decode cX4_odds 43 = .ok (.iload 6, 2) := by decide +kernel
theorem dX4_odds_45 : decode cX4_odds 45 = .ok (.aload_n 0, 1) := by decide +kernel
theorem dX4_odds_46 : decode cX4_odds 46 = .ok (.getfield 19, 3) := by decide +kernel
theorem dX4_odds_49 : decode cX4_odds 49 = .ok (.getfield 151, 3) := by decide +kernel
theorem dX4_odds_52 : decode cX4_odds 52 = .ok (.if_icmp .ge 32, 3) := by decide +kernel
theorem dX4_odds_55 : decode cX4_odds 55 = .ok (.aload_n 0, 1) := by decide +kernel
theorem dX4_odds_56 : decode cX4_odds 56 = .ok (.iload 6, 2) := by decide +kernel
theorem dX4_odds_58 : decode cX4_odds 58 = .ok (.iload_n 1, 1) := by decide +kernel
theorem dX4_odds_59 : decode cX4_odds 59 = .ok (.iload_n 2, 1) := by decide +kernel
theorem dX4_odds_60 : decode cX4_odds 60 = .ok (.invokevirtual 191, 3) := by decide +kernel
theorem dX4_odds_63 : decode cX4_odds 63 = .ok (.aload_n 0, 1) := by decide +kernel
theorem dX4_odds_64 : decode cX4_odds 64 = .ok (.getfield 35, 3) := by decide +kernel
theorem dX4_odds_67 : decode cX4_odds 67 = .ok (.iload_n 3, 1) := by decide +kernel
theorem dX4_odds_68 : decode cX4_odds 68 = .ok (.iload_n 2, 1) := by decide +kernel
theorem dX4_odds_69 : decode cX4_odds 69 = .ok (.invokevirtual 208, 3) := by decide +kernel
theorem dX4_odds_72 : decode cX4_odds 72 = .ok (.ifCond .eq 6, 3) := by decide +kernel
theorem dX4_odds_75 : decode cX4_odds 75 = .ok (.iinc 5 1, 3) := by decide +kernel
theorem dX4_odds_78 : decode cX4_odds 78 = .ok (.iinc 6 1, 3) := by decide +kernel
theorem dX4_odds_81 : decode cX4_odds 81 = .ok (.goto (-38), 3) := by decide +kernel
theorem dX4_odds_84 : decode cX4_odds 84 = .ok (.iload 5, 2) := by decide +kernel
end
section
theorem dX4_odds_86 : decode cX4_odds 86 = .ok (.aload_n 0, 1) := by decide +kernel
theorem dX4_odds_87 : decode cX4_odds 87 = .ok (.getfield 19, 3) := by decide +kernel
theorem dX4_odds_90 : decode cX4_odds 90 = .ok (.getfield 151, 3) := by decide +kernel
theorem dX4_odds_93 : decode cX4_odds 93 = .ok (.invokestatic 212, 3) := by decide +kernel
theorem dX4_odds_96 : decode cX4_odds 96 = .ok (.istore 6, 2) := by decide +kernel
theorem dX4_odds_98 : decode cX4_odds 98 = .ok (.iload 4, 2) := by decide +kernel
theorem dX4_odds_100 : decode cX4_odds 100 = .ok (.ifCond .ne 8, 3) := by decide +kernel
theorem dX4_odds_103 : decode cX4_odds 103 = .ok (.iload 5, 2) := by decide +kernel
theorem dX4_odds_105 : decode cX4_odds 105 = .ok (.goto 10, 3) := by decide +kernel
theorem dX4_odds_108 : decode cX4_odds 108 = .ok (.aload_n 0, 1) := by decide +kernel
theorem dX4_odds_109 : decode cX4_odds 109 = .ok (.getfield 19, 3) := by decide +kernel
theorem dX4_odds_112 : decode cX4_odds 112 = .ok (.getfield 151, 3) := by decide +kernel
theorem dX4_odds_115 : decode cX4_odds 115 = .ok (.iload 6, 2) := by decide +kernel
theorem dX4_odds_117 : decode cX4_odds 117 = .ok (.idiv, 1) := by decide +kernel
theorem dX4_odds_118 : decode cX4_odds 118 = .ok (.ireturn, 1) := by decide +kernel
theorem dX4_follow_0 : decode cX4_follow 0 = .ok (.aload_n 0, 1) := by decide +kernel
theorem dX4_follow_1 : decode cX4_follow 1 = .ok (.getfield 35, 3) := by decide +kernel
theorem dX4_follow_4 : decode cX4_follow 4 = .ok (.aload_n 0, 1) := by decide +kernel
theorem dX4_follow_5 : decode cX4_follow 5 = .ok (.getfield 28, 3) := by decide +kernel
theorem dX4_follow_8 : decode cX4_follow 8 = .ok (.invokevirtual 176, 3) := by decide +kernel
theorem dX4_follow_11 : decode cX4_follow 11 = .ok (.aload_n 0, 1) := by decide +kernel
theorem dX4_follow_12 : decode cX4_follow 12 = .ok (.getfield 35, 3) := by decide +kernel
theorem dX4_follow_15 : decode cX4_follow 15 = .ok (.iload_n 1, 1) := by decide +kernel
theorem dX4_follow_16 : decode cX4_follow 16 = .ok (.iload_n 2, 1) := by decide +kernel
theorem dX4_follow_17 : decode cX4_follow 17 = .ok (.invokevirtual 215, 3) := by decide +kernel
theorem dX4_follow_20 : decode cX4_follow 20 = .ok (.aload_n 0, 1) := by decide +kernel
theorem dX4_follow_21 : decode cX4_follow 21 = .ok (.getfield 35, 3) := by decide +kernel
theorem dX4_follow_24 : decode cX4_follow 24 = .ok (.iload_n 3, 1) := by decide +kernel
theorem dX4_follow_25 : decode cX4_follow 25 = .ok (.invokevirtual 182, 3) := by decide +kernel
theorem dX4_follow_28 : decode cX4_follow 28 = .ok (.return_, 1) := by decide +kernel
theorem dX4_followChanged_0 : decode cX4_followChanged 0 = .ok (.aload_n 0, 1) := by decide +kernel
theorem dX4_followChanged_1 : decode cX4_followChanged 1 = .ok (.getfield 35, 3) := by decide +kernel
theorem dX4_followChanged_4 : decode cX4_followChanged 4 = .ok (.aload_n 0, 1) := by decide +kernel
theorem dX4_followChanged_5 : decode cX4_followChanged 5 = .ok (.getfield 28, 3) := by decide +kernel
theorem dX4_followChanged_8 : decode cX4_followChanged 8 = .ok (.invokevirtual 176, 3) := by decide +kernel
theorem dX4_followChanged_11 : decode cX4_followChanged 11 = .ok (.aload_n 0, 1) := by decide +kernel
theorem dX4_followChanged_12 : decode cX4_followChanged 12 = .ok (.getfield 35, 3) := by decide +kernel
theorem dX4_followChanged_15 : decode cX4_followChanged 15 = .ok (.getfield 217, 3) := by decide +kernel
theorem dX4_followChanged_18 : decode cX4_followChanged 18 = .ok (.iload_n 1, 1) := by decide +kernel
theorem dX4_followChanged_19 : decode cX4_followChanged 19 = .ok (.iload_n 2, 1) := by decide +kernel
theorem dX4_followChanged_20 : decode cX4_followChanged 20 = .ok (.invokevirtual 157, 3) := by decide +kernel
theorem dX4_followChanged_23 : decode cX4_followChanged 23 = .ok (.aload_n 0, 1) := by decide +kernel
theorem dX4_followChanged_24 : decode cX4_followChanged 24 = .ok (.getfield 35, 3) := by decide +kernel
theorem dX4_followChanged_27 : decode cX4_followChanged 27 = .ok (.iload_n 3, 1) := by decide +kernel
theorem dX4_followChanged_28 : decode cX4_followChanged 28 = .ok (.iload 4, 2) := by decide +kernel
theorem dX4_followChanged_30 : decode cX4_followChanged 30 = .ok (.invokevirtual 215, 3) := by decide +kernel
theorem dX4_followChanged_33 : decode cX4_followChanged 33 = .ok (.aload_n 0, 1) := by decide +kernel
theorem dX4_followChanged_34 : decode cX4_followChanged 34 = .ok (.getfield 35, 3) := by decide +kernel
theorem dX4_followChanged_37 : decode cX4_followChanged 37 = .ok (.iload 5, 2) := by decide +kernel
theorem dX4_followChanged_39 : decode cX4_followChanged 39 = .ok (.invokevirtual 182, 3) := by decide +kernel
theorem dX4_followChanged_42 : decode cX4_followChanged 42 = .ok (.return_, 1) := by decide +kernel
theorem dX4_greatestShared_0 : decode cX4_greatestShared 0 = .ok (.iload_n 1, 1) := by decide +kernel
theorem dX4_greatestShared_1 : decode cX4_greatestShared 1 = .ok (.istore_n 2, 1) := by decide +kernel
theorem dX4_greatestShared_2 : decode cX4_greatestShared 2 = .ok (.iload_n 2, 1) := by decide +kernel
theorem dX4_greatestShared_3 : decode cX4_greatestShared 3 = .ok (.iconst 1, 1) := by decide +kernel
theorem dX4_greatestShared_4 : decode cX4_greatestShared 4 = .ok (.if_icmp .le 23, 3) := by decide +kernel
theorem dX4_greatestShared_7 : decode cX4_greatestShared 7 = .ok (.iload_n 0, 1) := by decide +kernel
theorem dX4_greatestShared_8 : decode cX4_greatestShared 8 = .ok (.iload_n 2, 1) := by decide +kernel
theorem dX4_greatestShared_9 : decode cX4_greatestShared 9 = .ok (.irem, 1) := by decide +kernel
theorem dX4_greatestShared_10 : decode cX4_greatestShared 10 = .ok (.ifCond .ne 11, 3) := by decide +kernel
theorem dX4_greatestShared_13 : decode cX4_greatestShared 13 = .ok (.iload_n 1, 1) := by decide +kernel
theorem dX4_greatestShared_14 : decode cX4_greatestShared 14 = .ok (.iload_n 2, 1) := by decide +kernel
theorem dX4_greatestShared_15 : decode cX4_greatestShared 15 = .ok (.irem, 1) := by decide +kernel
theorem dX4_greatestShared_16 : decode cX4_greatestShared 16 = .ok (.ifCond .ne 5, 3) := by decide +kernel
theorem dX4_greatestShared_19 : decode cX4_greatestShared 19 = .ok (.iload_n 2, 1) := by decide +kernel
theorem dX4_greatestShared_20 : decode cX4_greatestShared 20 = .ok (.ireturn, 1) := by decide +kernel
theorem dX4_greatestShared_21 : decode cX4_greatestShared 21 = .ok (.iinc 2 (-1), 3) := by decide +kernel
theorem dX4_greatestShared_24 : decode cX4_greatestShared 24 = .ok (.goto (-22), 3) := by decide +kernel
theorem dX4_greatestShared_27 : decode cX4_greatestShared 27 = .ok (.iconst 1, 1) := by decide +kernel
theorem dX4_greatestShared_28 : decode cX4_greatestShared 28 = .ok (.ireturn, 1) := by decide +kernel
theorem dX4_hears_0 : decode cX4_hears 0 = .ok (.aload_n 0, 1) := by decide +kernel
theorem dX4_hears_1 : decode cX4_hears 1 = .ok (.getfield 19, 3) := by decide +kernel
theorem dX4_hears_4 : decode cX4_hears 4 = .ok (.iload_n 1, 1) := by decide +kernel
theorem dX4_hears_5 : decode cX4_hears 5 = .ok (.invokevirtual 97, 3) := by decide +kernel
theorem dX4_hears_8 : decode cX4_hears 8 = .ok (.ifCond .eq 19, 3) := by decide +kernel
theorem dX4_hears_11 : decode cX4_hears 11 = .ok (.iload_n 2, 1) := by decide +kernel
theorem dX4_hears_12 : decode cX4_hears 12 = .ok (.invokestatic 173, 3) := by decide +kernel
theorem dX4_hears_15 : decode cX4_hears 15 = .ok (.ifCond .eq 12, 3) := by decide +kernel
theorem dX4_hears_18 : decode cX4_hears 18 = .ok (.iload_n 3, 1) := by decide +kernel
theorem dX4_hears_19 : decode cX4_hears 19 = .ok (.iconst 0, 1) := by decide +kernel
theorem dX4_hears_20 : decode cX4_hears 20 = .ok (.iconst 1, 1) := by decide +kernel
theorem dX4_hears_21 : decode cX4_hears 21 = .ok (.invokestatic 63, 3) := by decide +kernel
theorem dX4_hears_24 : decode cX4_hears 24 = .ok (.ifCond .ne 5, 3) := by decide +kernel
theorem dX4_hears_27 : decode cX4_hears 27 = .ok (.iconst (-1), 1) := by decide +kernel
theorem dX4_hears_28 : decode cX4_hears 28 = .ok (.ireturn, 1) := by decide +kernel
theorem dX4_hears_29 : decode cX4_hears 29 = .ok (.aload_n 0, 1) := by decide +kernel
theorem dX4_hears_30 : decode cX4_hears 30 = .ok (.getfield 88, 3) := by decide +kernel
theorem dX4_hears_33 : decode cX4_hears 33 = .ok (.bipush 6, 2) := by decide +kernel
theorem dX4_hears_35 : decode cX4_hears 35 = .ok (.if_icmp .lt 6, 3) := by decide +kernel
theorem dX4_hears_38 : decode cX4_hears 38 = .ok (.bipush (-3), 2) := by decide +kernel
theorem dX4_hears_40 : decode cX4_hears 40 = .ok (.ireturn, 1) := by decide +kernel
theorem dX4_hears_41 : decode cX4_hears 41 = .ok (.aload_n 0, 1) := by decide +kernel
theorem dX4_hears_42 : decode cX4_hears 42 = .ok (.getfield 50, 3) := by decide +kernel
theorem dX4_hears_45 : decode cX4_hears 45 = .ok (.aload_n 0, 1) := by decide +kernel
theorem dX4_hears_46 : decode cX4_hears 46 = .ok (.getfield 88, 3) := by decide +kernel
theorem dX4_hears_49 : decode cX4_hears 49 = .ok (.iload_n 1, 1) := by decide +kernel
theorem dX4_hears_50 : decode cX4_hears 50 = .ok (.iastore, 1) := by decide +kernel
theorem dX4_hears_51 : decode cX4_hears 51 = .ok (.aload_n 0, 1) := by decide +kernel
theorem dX4_hears_52 : decode cX4_hears 52 = .ok (.getfield 54, 3) := by decide +kernel
theorem dX4_hears_55 : decode cX4_hears 55 = .ok (.aload_n 0, 1) := by decide +kernel
theorem dX4_hears_56 : decode cX4_hears 56 = .ok (.getfield 88, 3) := by decide +kernel
theorem dX4_hears_59 : decode cX4_hears 59 = .ok (.iload_n 2, 1) := by decide +kernel
theorem dX4_hears_60 : decode cX4_hears 60 = .ok (.iastore, 1) := by decide +kernel
theorem dX4_hears_61 : decode cX4_hears 61 = .ok (.aload_n 0, 1) := by decide +kernel
theorem dX4_hears_62 : decode cX4_hears 62 = .ok (.getfield 57, 3) := by decide +kernel
theorem dX4_hears_65 : decode cX4_hears 65 = .ok (.aload_n 0, 1) := by decide +kernel
theorem dX4_hears_66 : decode cX4_hears 66 = .ok (.getfield 88, 3) := by decide +kernel
theorem dX4_hears_69 : decode cX4_hears 69 = .ok (.iload_n 3, 1) := by decide +kernel
theorem dX4_hears_70 : decode cX4_hears 70 = .ok (.iconst 1, 1) := by decide +kernel
theorem dX4_hears_71 : decode cX4_hears 71 = .ok (.if_icmp .ne 7, 3) := by decide +kernel
theorem dX4_hears_74 : decode cX4_hears 74 = .ok (.iconst 1, 1) := by decide +kernel
theorem dX4_hears_75 : decode cX4_hears 75 = .ok (.goto 4, 3) := by decide +kernel
theorem dX4_hears_78 : decode cX4_hears 78 = .ok (.iconst 0, 1) := by decide +kernel
theorem dX4_hears_79 : decode cX4_hears 79 = .ok (.bastore, 1) := by decide +kernel
theorem dX4_hears_80 : decode cX4_hears 80 = .ok (.aload_n 0, 1) := by decide +kernel
theorem dX4_hears_81 : decode cX4_hears 81 = .ok (.dup, 1) := by decide +kernel
theorem dX4_hears_82 : decode cX4_hears 82 = .ok (.getfield 88, 3) := by decide +kernel
theorem dX4_hears_85 : decode cX4_hears 85 = .ok (.iconst 1, 1) := by decide +kernel
theorem dX4_hears_86 : decode cX4_hears 86 = .ok (.iadd, 1) := by decide +kernel
theorem dX4_hears_87 : decode cX4_hears 87 = .ok (.putfield 88, 3) := by decide +kernel
theorem dX4_hears_90 : decode cX4_hears 90 = .ok (.aload_n 0, 1) := by decide +kernel
theorem dX4_hears_91 : decode cX4_hears 91 = .ok (.getfield 88, 3) := by decide +kernel
theorem dX4_hears_94 : decode cX4_hears 94 = .ok (.ireturn, 1) := by decide +kernel
theorem dX4_forget_0 : decode cX4_forget 0 = .ok (.aload_n 0, 1) := by decide +kernel
theorem dX4_forget_1 : decode cX4_forget 1 = .ok (.getfield 88, 3) := by decide +kernel
theorem dX4_forget_4 : decode cX4_forget 4 = .ok (.istore_n 1, 1) := by decide +kernel
theorem dX4_forget_5 : decode cX4_forget 5 = .ok (.aload_n 0, 1) := by decide +kernel
theorem dX4_forget_6 : decode cX4_forget 6 = .ok (.iconst 0, 1) := by decide +kernel
theorem dX4_forget_7 : decode cX4_forget 7 = .ok (.putfield 88, 3) := by decide +kernel
theorem dX4_forget_10 : decode cX4_forget 10 = .ok (.iload_n 1, 1) := by decide +kernel
theorem dX4_forget_11 : decode cX4_forget 11 = .ok (.ireturn, 1) := by decide +kernel
theorem dX4_gusts_0 : decode cX4_gusts 0 = .ok (.iload_n 1, 1) := by decide +kernel
theorem dX4_gusts_1 : decode cX4_gusts 1 = .ok (.iconst 0, 1) := by decide +kernel
theorem dX4_gusts_2 : decode cX4_gusts 2 = .ok (.iconst 1, 1) := by decide +kernel
theorem dX4_gusts_3 : decode cX4_gusts 3 = .ok (.invokestatic 63, 3) := by decide +kernel
theorem dX4_gusts_6 : decode cX4_gusts 6 = .ok (.ifCond .ne 5, 3) := by decide +kernel
theorem dX4_gusts_9 : decode cX4_gusts 9 = .ok (.iconst (-1), 1) := by decide +kernel
theorem dX4_gusts_10 : decode cX4_gusts 10 = .ok (.ireturn, 1) := by decide +kernel
theorem dX4_gusts_11 : decode cX4_gusts 11 = .ok (.iconst 0, 1) := by decide +kernel
theorem dX4_gusts_12 : decode cX4_gusts 12 = .ok (.istore_n 2, 1) := by decide +kernel
theorem dX4_gusts_13 : decode cX4_gusts 13 = .ok (.bipush (-9), 2) := by decide +kernel
theorem dX4_gusts_15 : decode cX4_gusts 15 = .ok (.istore_n 3, 1) := by decide +kernel
theorem dX4_gusts_16 : decode cX4_gusts 16 = .ok (.iconst 0, 1) := by decide +kernel
theorem dX4_gusts_17 : decode cX4_gusts 17 = .ok (.istore 4, 2) := by decide +kernel
theorem dX4_gusts_19 : decode cX4_gusts 19 = .ok (.iload 4, 2) := by decide +kernel
theorem dX4_gusts_21 : decode cX4_gusts 21 = .ok (.aload_n 0, 1) := by decide +kernel
theorem dX4_gusts_22 : decode cX4_gusts 22 = .ok (.getfield 19, 3) := by decide +kernel
theorem dX4_gusts_25 : decode cX4_gusts 25 = .ok (.getfield 151, 3) := by decide +kernel
theorem dX4_gusts_28 : decode cX4_gusts 28 = .ok (.if_icmp .ge 63, 3) := by decide +kernel
theorem dX4_gusts_31 : decode cX4_gusts 31 = .ok (.iconst 1, 1) := by decide +kernel
theorem dX4_gusts_32 : decode cX4_gusts 32 = .ok (.istore 5, 2) := by decide +kernel
theorem dX4_gusts_34 : decode cX4_gusts 34 = .ok (.iload 5, 2) := by decide +kernel
theorem dX4_gusts_36 : decode cX4_gusts 36 = .ok (.bipush 9, 2) := by decide +kernel
theorem dX4_gusts_38 : decode cX4_gusts 38 = .ok (.if_icmp .gt 47, 3) := by decide +kernel
theorem dX4_gusts_41 : decode cX4_gusts 41 = .ok (.aload_n 0, 1) := by decide +kernel
theorem dX4_gusts_42 : decode cX4_gusts 42 = .ok (.iload 4, 2) := by decide +kernel
theorem dX4_gusts_44 : decode cX4_gusts 44 = .ok (.iload 5, 2) := by decide +kernel
theorem dX4_gusts_46 : decode cX4_gusts 46 = .ok (.bipush 20, 2) := by decide +kernel
theorem dX4_gusts_48 : decode cX4_gusts 48 = .ok (.invokevirtual 191, 3) := by decide +kernel
theorem dX4_gusts_51 : decode cX4_gusts 51 = .ok (.aload_n 0, 1) := by decide +kernel
theorem dX4_gusts_52 : decode cX4_gusts 52 = .ok (.invokevirtual 220, 3) := by decide +kernel
theorem dX4_gusts_55 : decode cX4_gusts 55 = .ok (.ifCond .eq 24, 3) := by decide +kernel
theorem dX4_gusts_58 : decode cX4_gusts 58 = .ok (.iinc 2 1, 3) := by decide +kernel
theorem dX4_gusts_61 : decode cX4_gusts 61 = .ok (.iload_n 3, 1) := by decide +kernel
theorem dX4_gusts_62 : decode cX4_gusts 62 = .ok (.bipush (-9), 2) := by decide +kernel
theorem dX4_gusts_64 : decode cX4_gusts 64 = .ok (.if_icmp .ne 13, 3) := by decide +kernel
theorem dX4_gusts_67 : decode cX4_gusts 67 = .ok (.iload 4, 2) := by decide +kernel
theorem dX4_gusts_69 : decode cX4_gusts 69 = .ok (.iload 5, 2) := by decide +kernel
theorem dX4_gusts_71 : decode cX4_gusts 71 = .ok (.invokestatic 201, 3) := by decide +kernel
theorem dX4_gusts_74 : decode cX4_gusts 74 = .ok (.goto 4, 3) := by decide +kernel
theorem dX4_gusts_77 : decode cX4_gusts 77 = .ok (.iload_n 3, 1) := by decide +kernel
theorem dX4_gusts_78 : decode cX4_gusts 78 = .ok (.istore_n 3, 1) := by decide +kernel
theorem dX4_gusts_79 : decode cX4_gusts 79 = .ok (.iinc 5 1, 3) := by decide +kernel
theorem dX4_gusts_82 : decode cX4_gusts 82 = .ok (.goto (-48), 3) := by decide +kernel
theorem dX4_gusts_85 : decode cX4_gusts 85 = .ok (.iinc 4 1, 3) := by decide +kernel
theorem dX4_gusts_88 : decode cX4_gusts 88 = .ok (.goto (-69), 3) := by decide +kernel
theorem dX4_gusts_91 : decode cX4_gusts 91 = .ok (.iload_n 1, 1) := by decide +kernel
theorem dX4_gusts_92 : decode cX4_gusts 92 = .ok (.ifCond .ne 7, 3) := by decide +kernel
theorem dX4_gusts_95 : decode cX4_gusts 95 = .ok (.iload_n 2, 1) := by decide +kernel
theorem dX4_gusts_96 : decode cX4_gusts 96 = .ok (.goto 4, 3) := by decide +kernel
theorem dX4_gusts_99 : decode cX4_gusts 99 = .ok (.iload_n 3, 1) := by decide +kernel
theorem dX4_gusts_100 : decode cX4_gusts 100 = .ok (.ireturn, 1) := by decide +kernel
theorem dX4_listen_0 : decode cX4_listen 0 = .ok (.iload_n 1, 1) := by decide +kernel
theorem dX4_listen_1 : decode cX4_listen 1 = .ok (.invokestatic 173, 3) := by decide +kernel
theorem dX4_listen_4 : decode cX4_listen 4 = .ok (.ifCond .ne 5, 3) := by decide +kernel
theorem dX4_listen_7 : decode cX4_listen 7 = .ok (.iconst (-1), 1) := by decide +kernel
theorem dX4_listen_8 : decode cX4_listen 8 = .ok (.ireturn, 1) := by decide +kernel
theorem dX4_listen_9 : decode cX4_listen 9 = .ok (.aload_n 0, 1) := by decide +kernel
theorem dX4_listen_10 : decode cX4_listen 10 = .ok (.iload_n 1, 1) := by decide +kernel
theorem dX4_listen_11 : decode cX4_listen 11 = .ok (.invokevirtual 224, 3) := by decide +kernel
theorem dX4_listen_14 : decode cX4_listen 14 = .ok (.istore_n 2, 1) := by decide +kernel
theorem dX4_listen_15 : decode cX4_listen 15 = .ok (.iload_n 2, 1) := by decide +kernel
theorem dX4_listen_16 : decode cX4_listen 16 = .ok (.iconst 1, 1) := by decide +kernel
theorem dX4_listen_17 : decode cX4_listen 17 = .ok (.if_icmp .gt 6, 3) := by decide +kernel
theorem dX4_listen_20 : decode cX4_listen 20 = .ok (.bipush (-9), 2) := by decide +kernel
theorem dX4_listen_22 : decode cX4_listen 22 = .ok (.ireturn, 1) := by decide +kernel
theorem dX4_listen_23 : decode cX4_listen 23 = .ok (.bipush (-9), 2) := by decide +kernel
theorem dX4_listen_25 : decode cX4_listen 25 = .ok (.istore_n 3, 1) := by decide +kernel
theorem dX4_listen_26 : decode cX4_listen 26 = .ok (.iload_n 2, 1) := by decide +kernel
theorem dX4_listen_27 : decode cX4_listen 27 = .ok (.iconst 1, 1) := by decide +kernel
theorem dX4_listen_28 : decode cX4_listen 28 = .ok (.iadd, 1) := by decide +kernel
theorem dX4_listen_29 : decode cX4_listen 29 = .ok (.istore 4, 2) := by decide +kernel
theorem dX4_listen_31 : decode cX4_listen 31 = .ok (.iconst 0, 1) := by decide +kernel
theorem dX4_listen_32 : decode cX4_listen 32 = .ok (.istore 5, 2) := by decide +kernel
theorem dX4_listen_34 : decode cX4_listen 34 = .ok (.iload 5, 2) := by decide +kernel
theorem dX4_listen_36 : decode cX4_listen 36 = .ok (.aload_n 0, 1) := by decide +kernel
theorem dX4_listen_37 : decode cX4_listen 37 = .ok (.getfield 19, 3) := by decide +kernel
theorem dX4_listen_40 : decode cX4_listen 40 = .ok (.getfield 151, 3) := by decide +kernel
theorem dX4_listen_43 : decode cX4_listen 43 = .ok (.if_icmp .ge 44, 3) := by decide +kernel
theorem dX4_listen_46 : decode cX4_listen 46 = .ok (.aload_n 0, 1) := by decide +kernel
theorem dX4_listen_47 : decode cX4_listen 47 = .ok (.getfield 60, 3) := by decide +kernel
theorem dX4_listen_50 : decode cX4_listen 50 = .ok (.iload 5, 2) := by decide +kernel
theorem dX4_listen_52 : decode cX4_listen 52 = .ok (.iaload, 1) := by decide +kernel
theorem dX4_listen_53 : decode cX4_listen 53 = .ok (.iload_n 2, 1) := by decide +kernel
theorem dX4_listen_54 : decode cX4_listen 54 = .ok (.aload_n 0, 1) := by decide +kernel
theorem dX4_listen_55 : decode cX4_listen 55 = .ok (.getfield 60, 3) := by decide +kernel
theorem dX4_listen_58 : decode cX4_listen 58 = .ok (.iload 5, 2) := by decide +kernel
theorem dX4_listen_60 : decode cX4_listen 60 = .ok (.iaload, 1) := by decide +kernel
theorem dX4_listen_61 : decode cX4_listen 61 = .ok (.isub, 1) := by decide +kernel
theorem dX4_listen_62 : decode cX4_listen 62 = .ok (.invokestatic 227, 3) := by decide +kernel
theorem dX4_listen_65 : decode cX4_listen 65 = .ok (.istore 6, 2) := by decide +kernel
theorem dX4_listen_67 : decode cX4_listen 67 = .ok (.iload 6, 2) := by decide +kernel
theorem dX4_listen_69 : decode cX4_listen 69 = .ok (.iload 4, 2) := by decide +kernel
theorem dX4_listen_71 : decode cX4_listen 71 = .ok (.if_icmp .ge 10, 3) := by decide +kernel
theorem dX4_listen_74 : decode cX4_listen 74 = .ok (.iload 5, 2) := by decide +kernel
theorem dX4_listen_76 : decode cX4_listen 76 = .ok (.istore_n 3, 1) := by decide +kernel
theorem dX4_listen_77 : decode cX4_listen 77 = .ok (.iload 6, 2) := by decide +kernel
theorem dX4_listen_79 : decode cX4_listen 79 = .ok (.istore 4, 2) := by decide +kernel
theorem dX4_listen_81 : decode cX4_listen 81 = .ok (.iinc 5 1, 3) := by decide +kernel
theorem dX4_listen_84 : decode cX4_listen 84 = .ok (.goto (-50), 3) := by decide +kernel
theorem dX4_listen_87 : decode cX4_listen 87 = .ok (.iload_n 3, 1) := by decide +kernel
theorem dX4_listen_88 : decode cX4_listen 88 = .ok (.ireturn, 1) := by decide +kernel
theorem dX4_countStrikes_0 : decode cX4_countStrikes 0 = .ok (.iconst 0, 1) := by decide +kernel
theorem dX4_countStrikes_1 : decode cX4_countStrikes 1 = .ok (.istore_n 2, 1) := by decide +kernel
theorem dX4_countStrikes_2 : decode cX4_countStrikes 2 = .ok (.iload_n 2, 1) := by decide +kernel
theorem dX4_countStrikes_3 : decode cX4_countStrikes 3 = .ok (.bipush 8, 2) := by decide +kernel
theorem dX4_countStrikes_5 : decode cX4_countStrikes 5 = .ok (.if_icmp .ge 16, 3) := by decide +kernel
theorem dX4_countStrikes_8 : decode cX4_countStrikes 8 = .ok (.aload_n 0, 1) := by decide +kernel
theorem dX4_countStrikes_9 : decode cX4_countStrikes 9 = .ok (.getfield 60, 3) := by decide +kernel
theorem dX4_countStrikes_12 : decode cX4_countStrikes 12 = .ok (.iload_n 2, 1) := by decide +kernel
theorem dX4_countStrikes_13 : decode cX4_countStrikes 13 = .ok (.iconst 0, 1) := by decide +kernel
theorem dX4_countStrikes_14 : decode cX4_countStrikes 14 = .ok (.iastore, 1) := by decide +kernel
theorem dX4_countStrikes_15 : decode cX4_countStrikes 15 = .ok (.iinc 2 1, 3) := by decide +kernel
theorem dX4_countStrikes_18 : decode cX4_countStrikes 18 = .ok (.goto (-16), 3) := by decide +kernel
theorem dX4_countStrikes_21 : decode cX4_countStrikes 21 = .ok (.iconst 0, 1) := by decide +kernel
theorem dX4_countStrikes_22 : decode cX4_countStrikes 22 = .ok (.istore_n 2, 1) := by decide +kernel
theorem dX4_countStrikes_23 : decode cX4_countStrikes 23 = .ok (.iconst 0, 1) := by decide +kernel
theorem dX4_countStrikes_24 : decode cX4_countStrikes 24 = .ok (.istore_n 3, 1) := by decide +kernel
theorem dX4_countStrikes_25 : decode cX4_countStrikes 25 = .ok (.iload_n 3, 1) := by decide +kernel
theorem dX4_countStrikes_26 : decode cX4_countStrikes 26 = .ok (.aload_n 0, 1) := by decide +kernel
theorem dX4_countStrikes_27 : decode cX4_countStrikes 27 = .ok (.getfield 19, 3) := by decide +kernel
theorem dX4_countStrikes_30 : decode cX4_countStrikes 30 = .ok (.getfield 151, 3) := by decide +kernel
theorem dX4_countStrikes_33 : decode cX4_countStrikes 33 = .ok (.if_icmp .ge 49, 3) := by decide +kernel
theorem dX4_countStrikes_36 : decode cX4_countStrikes 36 = .ok (.iconst 1, 1) := by decide +kernel
theorem dX4_countStrikes_37 : decode cX4_countStrikes 37 = .ok (.istore 4, 2) := by decide +kernel
theorem dX4_countStrikes_39 : decode cX4_countStrikes 39 = .ok (.iload 4, 2) := by decide +kernel
theorem dX4_countStrikes_41 : decode cX4_countStrikes 41 = .ok (.bipush 9, 2) := by decide +kernel
theorem dX4_countStrikes_43 : decode cX4_countStrikes 43 = .ok (.if_icmp .gt 33, 3) := by decide +kernel
theorem dX4_countStrikes_46 : decode cX4_countStrikes 46 = .ok (.aload_n 0, 1) := by decide +kernel
theorem dX4_countStrikes_47 : decode cX4_countStrikes 47 = .ok (.iload_n 3, 1) := by decide +kernel
theorem dX4_countStrikes_48 : decode cX4_countStrikes 48 = .ok (.iload 4, 2) := by decide +kernel
theorem dX4_countStrikes_50 : decode cX4_countStrikes 50 = .ok (.bipush 20, 2) := by decide +kernel
theorem dX4_countStrikes_52 : decode cX4_countStrikes 52 = .ok (.invokevirtual 191, 3) := by decide +kernel
theorem dX4_countStrikes_55 : decode cX4_countStrikes 55 = .ok (.aload_n 0, 1) := by decide +kernel
theorem dX4_countStrikes_56 : decode cX4_countStrikes 56 = .ok (.invokevirtual 220, 3) := by decide +kernel
theorem dX4_countStrikes_59 : decode cX4_countStrikes 59 = .ok (.ifCond .eq 11, 3) := by decide +kernel
theorem dX4_countStrikes_62 : decode cX4_countStrikes 62 = .ok (.iinc 2 1, 3) := by decide +kernel
theorem dX4_countStrikes_65 : decode cX4_countStrikes 65 = .ok (.aload_n 0, 1) := by decide +kernel
theorem dX4_countStrikes_66 : decode cX4_countStrikes 66 = .ok (.iload_n 1, 1) := by decide +kernel
theorem dX4_countStrikes_67 : decode cX4_countStrikes 67 = .ok (.invokevirtual 230, 3) := by decide +kernel
theorem dX4_countStrikes_70 : decode cX4_countStrikes 70 = .ok (.iinc 4 1, 3) := by decide +kernel
theorem dX4_countStrikes_73 : decode cX4_countStrikes 73 = .ok (.goto (-34), 3) := by decide +kernel
theorem dX4_countStrikes_76 : decode cX4_countStrikes 76 = .ok (.iinc 3 1, 3) := by decide +kernel
theorem dX4_countStrikes_79 : decode cX4_countStrikes 79 = .ok (.goto (-54), 3) := by decide +kernel
theorem dX4_countStrikes_82 : decode cX4_countStrikes 82 = .ok (.iload_n 2, 1) := by decide +kernel
theorem dX4_countStrikes_83 : decode cX4_countStrikes 83 = .ok (.ireturn, 1) := by decide +kernel
theorem dX4_addStrikes_0 : decode cX4_addStrikes 0 = .ok (.iconst 0, 1) := by decide +kernel
theorem dX4_addStrikes_1 : decode cX4_addStrikes 1 = .ok (.istore_n 2, 1) := by decide +kernel
theorem dX4_addStrikes_2 : decode cX4_addStrikes 2 = .ok (.iload_n 2, 1) := by decide +kernel
theorem dX4_addStrikes_3 : decode cX4_addStrikes 3 = .ok (.aload_n 0, 1) := by decide +kernel
theorem dX4_addStrikes_4 : decode cX4_addStrikes 4 = .ok (.getfield 19, 3) := by decide +kernel
theorem dX4_addStrikes_7 : decode cX4_addStrikes 7 = .ok (.getfield 151, 3) := by decide +kernel
theorem dX4_addStrikes_10 : decode cX4_addStrikes 10 = .ok (.if_icmp .ge 31, 3) := by decide +kernel
theorem dX4_addStrikes_13 : decode cX4_addStrikes 13 = .ok (.aload_n 0, 1) := by decide +kernel
theorem dX4_addStrikes_14 : decode cX4_addStrikes 14 = .ok (.getfield 35, 3) := by decide +kernel
theorem dX4_addStrikes_17 : decode cX4_addStrikes 17 = .ok (.iload_n 2, 1) := by decide +kernel
theorem dX4_addStrikes_18 : decode cX4_addStrikes 18 = .ok (.iload_n 1, 1) := by decide +kernel
theorem dX4_addStrikes_19 : decode cX4_addStrikes 19 = .ok (.invokevirtual 208, 3) := by decide +kernel
theorem dX4_addStrikes_22 : decode cX4_addStrikes 22 = .ok (.ifCond .eq 13, 3) := by decide +kernel
theorem dX4_addStrikes_25 : decode cX4_addStrikes 25 = .ok (.aload_n 0, 1) := by decide +kernel
theorem dX4_addStrikes_26 : decode cX4_addStrikes 26 = .ok (.getfield 60, 3) := by decide +kernel
theorem dX4_addStrikes_29 : decode cX4_addStrikes 29 = .ok (.iload_n 2, 1) := by decide +kernel
theorem dX4_addStrikes_30 : decode cX4_addStrikes 30 = .ok (.dup2, 1) := by decide +kernel
theorem dX4_addStrikes_31 : decode cX4_addStrikes 31 = .ok (.iaload, 1) := by decide +kernel
theorem dX4_addStrikes_32 : decode cX4_addStrikes 32 = .ok (.iconst 1, 1) := by decide +kernel
theorem dX4_addStrikes_33 : decode cX4_addStrikes 33 = .ok (.iadd, 1) := by decide +kernel
theorem dX4_addStrikes_34 : decode cX4_addStrikes 34 = .ok (.iastore, 1) := by decide +kernel
theorem dX4_addStrikes_35 : decode cX4_addStrikes 35 = .ok (.iinc 2 1, 3) := by decide +kernel
theorem dX4_addStrikes_38 : decode cX4_addStrikes 38 = .ok (.goto (-36), 3) := by decide +kernel
theorem dX4_addStrikes_41 : decode cX4_addStrikes 41 = .ok (.return_, 1) := by decide +kernel
theorem dX4_fitsHeard_0 : decode cX4_fitsHeard 0 = .ok (.iconst 0, 1) := by decide +kernel
theorem dX4_fitsHeard_1 : decode cX4_fitsHeard 1 = .ok (.istore_n 1, 1) := by decide +kernel
theorem dX4_fitsHeard_2 : decode cX4_fitsHeard 2 = .ok (.iload_n 1, 1) := by decide +kernel
theorem dX4_fitsHeard_3 : decode cX4_fitsHeard 3 = .ok (.aload_n 0, 1) := by decide +kernel
theorem dX4_fitsHeard_4 : decode cX4_fitsHeard 4 = .ok (.getfield 88, 3) := by decide +kernel
theorem dX4_fitsHeard_7 : decode cX4_fitsHeard 7 = .ok (.if_icmp .ge 39, 3) := by decide +kernel
theorem dX4_fitsHeard_10 : decode cX4_fitsHeard 10 = .ok (.aload_n 0, 1) := by decide +kernel
theorem dX4_fitsHeard_11 : decode cX4_fitsHeard 11 = .ok (.getfield 35, 3) := by decide +kernel
theorem dX4_fitsHeard_14 : decode cX4_fitsHeard 14 = .ok (.aload_n 0, 1) := by decide +kernel
theorem dX4_fitsHeard_15 : decode cX4_fitsHeard 15 = .ok (.getfield 50, 3) := by decide +kernel
theorem dX4_fitsHeard_18 : decode cX4_fitsHeard 18 = .ok (.iload_n 1, 1) := by decide +kernel
theorem dX4_fitsHeard_19 : decode cX4_fitsHeard 19 = .ok (.iaload, 1) := by decide +kernel
theorem dX4_fitsHeard_20 : decode cX4_fitsHeard 20 = .ok (.aload_n 0, 1) := by decide +kernel
theorem dX4_fitsHeard_21 : decode cX4_fitsHeard 21 = .ok (.getfield 54, 3) := by decide +kernel
theorem dX4_fitsHeard_24 : decode cX4_fitsHeard 24 = .ok (.iload_n 1, 1) := by decide +kernel
theorem dX4_fitsHeard_25 : decode cX4_fitsHeard 25 = .ok (.iaload, 1) := by decide +kernel
theorem dX4_fitsHeard_26 : decode cX4_fitsHeard 26 = .ok (.invokevirtual 208, 3) := by decide +kernel
theorem dX4_fitsHeard_29 : decode cX4_fitsHeard 29 = .ok (.aload_n 0, 1) := by decide +kernel
theorem dX4_fitsHeard_30 : decode cX4_fitsHeard 30 = .ok (.getfield 57, 3) := by decide +kernel
theorem dX4_fitsHeard_33 : decode cX4_fitsHeard 33 = .ok (.iload_n 1, 1) := by decide +kernel
theorem dX4_fitsHeard_34 : decode cX4_fitsHeard 34 = .ok (.baload, 1) := by decide +kernel
theorem dX4_fitsHeard_35 : decode cX4_fitsHeard 35 = .ok (.if_icmp .eq 5, 3) := by decide +kernel
theorem dX4_fitsHeard_38 : decode cX4_fitsHeard 38 = .ok (.iconst 0, 1) := by decide +kernel
theorem dX4_fitsHeard_39 : decode cX4_fitsHeard 39 = .ok (.ireturn, 1) := by decide +kernel
theorem dX4_fitsHeard_40 : decode cX4_fitsHeard 40 = .ok (.iinc 1 1, 3) := by decide +kernel
theorem dX4_fitsHeard_43 : decode cX4_fitsHeard 43 = .ok (.goto (-41), 3) := by decide +kernel
theorem dX4_fitsHeard_46 : decode cX4_fitsHeard 46 = .ok (.iconst 1, 1) := by decide +kernel
theorem dX4_fitsHeard_47 : decode cX4_fitsHeard 47 = .ok (.ireturn, 1) := by decide +kernel
theorem dX4_rate_0 : decode cX4_rate 0 = .ok (.aload_n 0, 1) := by decide +kernel
theorem dX4_rate_1 : decode cX4_rate 1 = .ok (.getfield 19, 3) := by decide +kernel
theorem dX4_rate_4 : decode cX4_rate 4 = .ok (.iload_n 2, 1) := by decide +kernel
theorem dX4_rate_5 : decode cX4_rate 5 = .ok (.invokevirtual 97, 3) := by decide +kernel
theorem dX4_rate_8 : decode cX4_rate 8 = .ok (.ifCond .ne 6, 3) := by decide +kernel
theorem dX4_rate_11 : decode cX4_rate 11 = .ok (.ldc 233, 2) := by decide +kernel
theorem dX4_rate_13 : decode cX4_rate 13 = .ok (.ireturn, 1) := by decide +kernel
theorem dX4_rate_14 : decode cX4_rate 14 = .ok (.iload_n 1, 1) := by decide +kernel
theorem dX4_rate_15 : decode cX4_rate 15 = .ok (.tableswitch 73 0 5 #[37, 43, 49, 55, 61, 67], 37) := by decide +kernel
theorem dX4_rate_52 : decode cX4_rate 52 = .ok (.aload_n 0, 1) := by decide +kernel
theorem dX4_rate_53 : decode cX4_rate 53 = .ok (.iload_n 2, 1) := by decide +kernel
theorem dX4_rate_54 : decode cX4_rate 54 = .ok (.invokevirtual 234, 3) := by decide +kernel
theorem dX4_rate_57 : decode cX4_rate 57 = .ok (.ireturn, 1) := by decide +kernel
theorem dX4_rate_58 : decode cX4_rate 58 = .ok (.aload_n 0, 1) := by decide +kernel
theorem dX4_rate_59 : decode cX4_rate 59 = .ok (.iload_n 2, 1) := by decide +kernel
theorem dX4_rate_60 : decode cX4_rate 60 = .ok (.invokevirtual 237, 3) := by decide +kernel
theorem dX4_rate_63 : decode cX4_rate 63 = .ok (.ireturn, 1) := by decide +kernel
theorem dX4_rate_64 : decode cX4_rate 64 = .ok (.aload_n 0, 1) := by decide +kernel
theorem dX4_rate_65 : decode cX4_rate 65 = .ok (.iload_n 2, 1) := by decide +kernel
theorem dX4_rate_66 : decode cX4_rate 66 = .ok (.invokevirtual 240, 3) := by decide +kernel
theorem dX4_rate_69 : decode cX4_rate 69 = .ok (.ireturn, 1) := by decide +kernel
theorem dX4_rate_70 : decode cX4_rate 70 = .ok (.aload_n 0, 1) := by decide +kernel
theorem dX4_rate_71 : decode cX4_rate 71 = .ok (.iload_n 2, 1) := by decide +kernel
theorem dX4_rate_72 : decode cX4_rate 72 = .ok (.invokevirtual 243, 3) := by decide +kernel
theorem dX4_rate_75 : decode cX4_rate 75 = .ok (.ireturn, 1) := by decide +kernel
theorem dX4_rate_76 : decode cX4_rate 76 = .ok (.aload_n 0, 1) := by decide +kernel
theorem dX4_rate_77 : decode cX4_rate 77 = .ok (.iload_n 2, 1) := by decide +kernel
theorem dX4_rate_78 : decode cX4_rate 78 = .ok (.invokevirtual 246, 3) := by decide +kernel
theorem dX4_rate_81 : decode cX4_rate 81 = .ok (.ireturn, 1) := by decide +kernel
theorem dX4_rate_82 : decode cX4_rate 82 = .ok (.aload_n 0, 1) := by decide +kernel
theorem dX4_rate_83 : decode cX4_rate 83 = .ok (.iload_n 2, 1) := by decide +kernel
theorem dX4_rate_84 : decode cX4_rate 84 = .ok (.invokevirtual 249, 3) := by decide +kernel
theorem dX4_rate_87 : decode cX4_rate 87 = .ok (.ireturn, 1) := by decide +kernel
theorem dX4_rate_88 : decode cX4_rate 88 = .ok (.ldc 233, 2) := by decide +kernel
theorem dX4_rate_90 : decode cX4_rate 90 = .ok (.ireturn, 1) := by decide +kernel
theorem dX4_rateChime_0 : decode cX4_rateChime 0 = .ok (.aload_n 0, 1) := by decide +kernel
theorem dX4_rateChime_1 : decode cX4_rateChime 1 = .ok (.dup, 1) := by decide +kernel
theorem dX4_rateChime_2 : decode cX4_rateChime 2 = .ok (.getfield 252, 3) := by decide +kernel
theorem dX4_rateChime_5 : decode cX4_rateChime 5 = .ok (.lconst 1, 1) := by decide +kernel
theorem dX4_rateChime_6 : decode cX4_rateChime 6 = .ok (.ladd, 1) := by decide +kernel
theorem dX4_rateChime_7 : decode cX4_rateChime 7 = .ok (.putfield 252, 3) := by decide +kernel
theorem dX4_rateChime_10 : decode cX4_rateChime 10 = .ok (.aload_n 0, 1) := by decide +kernel
theorem dX4_rateChime_11 : decode cX4_rateChime 11 = .ok (.getfield 19, 3) := by decide +kernel
theorem dX4_rateChime_14 : decode cX4_rateChime 14 = .ok (.getfield 100, 3) := by decide +kernel
theorem dX4_rateChime_17 : decode cX4_rateChime 17 = .ok (.iload_n 1, 1) := by decide +kernel
theorem dX4_rateChime_18 : decode cX4_rateChime 18 = .ok (.iaload, 1) := by decide +kernel
theorem dX4_rateChime_19 : decode cX4_rateChime 19 = .ok (.ireturn, 1) := by decide +kernel
theorem dX4_rateGlass_0 : decode cX4_rateGlass 0 = .ok (.aload_n 0, 1) := by decide +kernel
theorem dX4_rateGlass_1 : decode cX4_rateGlass 1 = .ok (.dup, 1) := by decide +kernel
theorem dX4_rateGlass_2 : decode cX4_rateGlass 2 = .ok (.getfield 252, 3) := by decide +kernel
theorem dX4_rateGlass_5 : decode cX4_rateGlass 5 = .ok (.ldc2_w 256, 3) := by decide +kernel
theorem dX4_rateGlass_8 : decode cX4_rateGlass 8 = .ok (.ladd, 1) := by decide +kernel
theorem dX4_rateGlass_9 : decode cX4_rateGlass 9 = .ok (.putfield 252, 3) := by decide +kernel
theorem dX4_rateGlass_12 : decode cX4_rateGlass 12 = .ok (.aload_n 0, 1) := by decide +kernel
theorem dX4_rateGlass_13 : decode cX4_rateGlass 13 = .ok (.iload_n 1, 1) := by decide +kernel
theorem dX4_rateGlass_14 : decode cX4_rateGlass 14 = .ok (.invokevirtual 234, 3) := by decide +kernel
theorem dX4_rateGlass_17 : decode cX4_rateGlass 17 = .ok (.aload_n 0, 1) := by decide +kernel
theorem dX4_rateGlass_18 : decode cX4_rateGlass 18 = .ok (.getfield 28, 3) := by decide +kernel
theorem dX4_rateGlass_21 : decode cX4_rateGlass 21 = .ok (.getfield 112, 3) := by decide +kernel
theorem dX4_rateGlass_24 : decode cX4_rateGlass 24 = .ok (.iload_n 1, 1) := by decide +kernel
theorem dX4_rateGlass_25 : decode cX4_rateGlass 25 = .ok (.iaload, 1) := by decide +kernel
theorem dX4_rateGlass_26 : decode cX4_rateGlass 26 = .ok (.iadd, 1) := by decide +kernel
theorem dX4_rateGlass_27 : decode cX4_rateGlass 27 = .ok (.ireturn, 1) := by decide +kernel
theorem dX4_rateShell_0 : decode cX4_rateShell 0 = .ok (.aload_n 0, 1) := by decide +kernel
theorem dX4_rateShell_1 : decode cX4_rateShell 1 = .ok (.dup, 1) := by decide +kernel
theorem dX4_rateShell_2 : decode cX4_rateShell 2 = .ok (.getfield 252, 3) := by decide +kernel
theorem dX4_rateShell_5 : decode cX4_rateShell 5 = .ok (.ldc2_w 258, 3) := by decide +kernel
theorem dX4_rateShell_8 : decode cX4_rateShell 8 = .ok (.ladd, 1) := by decide +kernel
theorem dX4_rateShell_9 : decode cX4_rateShell 9 = .ok (.putfield 252, 3) := by decide +kernel
theorem dX4_rateShell_12 : decode cX4_rateShell 12 = .ok (.aload_n 0, 1) := by decide +kernel
theorem dX4_rateShell_13 : decode cX4_rateShell 13 = .ok (.iload_n 1, 1) := by decide +kernel
theorem dX4_rateShell_14 : decode cX4_rateShell 14 = .ok (.invokevirtual 234, 3) := by decide +kernel
theorem dX4_rateShell_17 : decode cX4_rateShell 17 = .ok (.aload_n 0, 1) := by decide +kernel
theorem dX4_rateShell_18 : decode cX4_rateShell 18 = .ok (.getfield 28, 3) := by decide +kernel
theorem dX4_rateShell_21 : decode cX4_rateShell 21 = .ok (.getfield 128, 3) := by decide +kernel
theorem dX4_rateShell_24 : decode cX4_rateShell 24 = .ok (.isub, 1) := by decide +kernel
theorem dX4_rateShell_25 : decode cX4_rateShell 25 = .ok (.ireturn, 1) := by decide +kernel
theorem dX4_rateBell_0 : decode cX4_rateBell 0 = .ok (.aload_n 0, 1) := by decide +kernel
theorem dX4_rateBell_1 : decode cX4_rateBell 1 = .ok (.dup, 1) := by decide +kernel
theorem dX4_rateBell_2 : decode cX4_rateBell 2 = .ok (.getfield 252, 3) := by decide +kernel
theorem dX4_rateBell_5 : decode cX4_rateBell 5 = .ok (.ldc2_w 260, 3) := by decide +kernel
theorem dX4_rateBell_8 : decode cX4_rateBell 8 = .ok (.ladd, 1) := by decide +kernel
theorem dX4_rateBell_9 : decode cX4_rateBell 9 = .ok (.putfield 252, 3) := by decide +kernel
theorem dX4_rateBell_12 : decode cX4_rateBell 12 = .ok (.iconst 2, 1) := by decide +kernel
theorem dX4_rateBell_13 : decode cX4_rateBell 13 = .ok (.aload_n 0, 1) := by decide +kernel
theorem dX4_rateBell_14 : decode cX4_rateBell 14 = .ok (.iload_n 1, 1) := by decide +kernel
theorem dX4_rateBell_15 : decode cX4_rateBell 15 = .ok (.invokevirtual 237, 3) := by decide +kernel
theorem dX4_rateBell_18 : decode cX4_rateBell 18 = .ok (.imul, 1) := by decide +kernel
theorem dX4_rateBell_19 : decode cX4_rateBell 19 = .ok (.ireturn, 1) := by decide +kernel
theorem dX4_rateBone_0 : decode cX4_rateBone 0 = .ok (.aload_n 0, 1) := by decide +kernel
theorem dX4_rateBone_1 : decode cX4_rateBone 1 = .ok (.dup, 1) := by decide +kernel
theorem dX4_rateBone_2 : decode cX4_rateBone 2 = .ok (.getfield 252, 3) := by decide +kernel
theorem dX4_rateBone_5 : decode cX4_rateBone 5 = .ok (.ldc2_w 262, 3) := by decide +kernel
theorem dX4_rateBone_8 : decode cX4_rateBone 8 = .ok (.ladd, 1) := by decide +kernel
theorem dX4_rateBone_9 : decode cX4_rateBone 9 = .ok (.putfield 252, 3) := by decide +kernel
theorem dX4_rateBone_12 : decode cX4_rateBone 12 = .ok (.aload_n 0, 1) := by decide +kernel
theorem dX4_rateBone_13 : decode cX4_rateBone 13 = .ok (.iload_n 1, 1) := by decide +kernel
theorem dX4_rateBone_14 : decode cX4_rateBone 14 = .ok (.invokevirtual 240, 3) := by decide +kernel
theorem dX4_rateBone_17 : decode cX4_rateBone 17 = .ok (.iload_n 1, 1) := by decide +kernel
theorem dX4_rateBone_18 : decode cX4_rateBone 18 = .ok (.iadd, 1) := by decide +kernel
theorem dX4_rateBone_19 : decode cX4_rateBone 19 = .ok (.ireturn, 1) := by decide +kernel
theorem dX4_rateBrass_0 : decode cX4_rateBrass 0 = .ok (.aload_n 0, 1) := by decide +kernel
theorem dX4_rateBrass_1 : decode cX4_rateBrass 1 = .ok (.dup, 1) := by decide +kernel
theorem dX4_rateBrass_2 : decode cX4_rateBrass 2 = .ok (.getfield 252, 3) := by decide +kernel
theorem dX4_rateBrass_5 : decode cX4_rateBrass 5 = .ok (.ldc2_w 264, 3) := by decide +kernel
theorem dX4_rateBrass_8 : decode cX4_rateBrass 8 = .ok (.ladd, 1) := by decide +kernel
theorem dX4_rateBrass_9 : decode cX4_rateBrass 9 = .ok (.putfield 252, 3) := by decide +kernel
theorem dX4_rateBrass_12 : decode cX4_rateBrass 12 = .ok (.aload_n 0, 1) := by decide +kernel
theorem dX4_rateBrass_13 : decode cX4_rateBrass 13 = .ok (.iload_n 1, 1) := by decide +kernel
theorem dX4_rateBrass_14 : decode cX4_rateBrass 14 = .ok (.invokevirtual 234, 3) := by decide +kernel
theorem dX4_rateBrass_17 : decode cX4_rateBrass 17 = .ok (.aload_n 0, 1) := by decide +kernel
theorem dX4_rateBrass_18 : decode cX4_rateBrass 18 = .ok (.getfield 28, 3) := by decide +kernel
theorem dX4_rateBrass_21 : decode cX4_rateBrass 21 = .ok (.getfield 122, 3) := by decide +kernel
theorem dX4_rateBrass_24 : decode cX4_rateBrass 24 = .ok (.iadd, 1) := by decide +kernel
theorem dX4_rateBrass_25 : decode cX4_rateBrass 25 = .ok (.ireturn, 1) := by decide +kernel
theorem dX4_keep_0 : decode cX4_keep 0 = .ok (.iload_n 1, 1) := by decide +kernel
theorem dX4_keep_1 : decode cX4_keep 1 = .ok (.iconst 0, 1) := by decide +kernel
theorem dX4_keep_2 : decode cX4_keep 2 = .ok (.iconst 1, 1) := by decide +kernel
theorem dX4_keep_3 : decode cX4_keep 3 = .ok (.invokestatic 63, 3) := by decide +kernel
theorem dX4_keep_6 : decode cX4_keep 6 = .ok (.ifCond .ne 5, 3) := by decide +kernel
theorem dX4_keep_9 : decode cX4_keep 9 = .ok (.iconst (-1), 1) := by decide +kernel
theorem dX4_keep_10 : decode cX4_keep 10 = .ok (.ireturn, 1) := by decide +kernel
theorem dX4_keep_11 : decode cX4_keep 11 = .ok (.aload_n 0, 1) := by decide +kernel
theorem dX4_keep_12 : decode cX4_keep 12 = .ok (.getfield 43, 3) := by decide +kernel
theorem dX4_keep_15 : decode cX4_keep 15 = .ok (.iload_n 1, 1) := by decide +kernel
theorem dX4_keep_16 : decode cX4_keep 16 = .ok (.aaload, 1) := by decide +kernel
theorem dX4_keep_17 : decode cX4_keep 17 = .ok (.aload_n 0, 1) := by decide +kernel
theorem dX4_keep_18 : decode cX4_keep 18 = .ok (.getfield 28, 3) := by decide +kernel
theorem dX4_keep_21 : decode cX4_keep 21 = .ok (.invokevirtual 164, 3) := by decide +kernel
theorem dX4_keep_24 : decode cX4_keep 24 = .ok (.aload_n 0, 1) := by decide +kernel
theorem dX4_keep_25 : decode cX4_keep 25 = .ok (.getfield 46, 3) := by decide +kernel
theorem dX4_keep_28 : decode cX4_keep 28 = .ok (.iload_n 1, 1) := by decide +kernel
theorem dX4_keep_29 : decode cX4_keep 29 = .ok (.iconst 1, 1) := by decide +kernel
theorem dX4_keep_30 : decode cX4_keep 30 = .ok (.bastore, 1) := by decide +kernel
theorem dX4_keep_31 : decode cX4_keep 31 = .ok (.aload_n 0, 1) := by decide +kernel
theorem dX4_keep_32 : decode cX4_keep 32 = .ok (.getfield 28, 3) := by decide +kernel
theorem dX4_keep_35 : decode cX4_keep 35 = .ok (.getfield 122, 3) := by decide +kernel
theorem dX4_keep_38 : decode cX4_keep 38 = .ok (.ireturn, 1) := by decide +kernel
theorem dX4_back_0 : decode cX4_back 0 = .ok (.iload_n 1, 1) := by decide +kernel
theorem dX4_back_1 : decode cX4_back 1 = .ok (.iconst 0, 1) := by decide +kernel
theorem dX4_back_2 : decode cX4_back 2 = .ok (.iconst 1, 1) := by decide +kernel
theorem dX4_back_3 : decode cX4_back 3 = .ok (.invokestatic 63, 3) := by decide +kernel
theorem dX4_back_6 : decode cX4_back 6 = .ok (.ifCond .ne 5, 3) := by decide +kernel
theorem dX4_back_9 : decode cX4_back 9 = .ok (.iconst (-1), 1) := by decide +kernel
theorem dX4_back_10 : decode cX4_back 10 = .ok (.ireturn, 1) := by decide +kernel
theorem dX4_back_11 : decode cX4_back 11 = .ok (.aload_n 0, 1) := by decide +kernel
theorem dX4_back_12 : decode cX4_back 12 = .ok (.getfield 46, 3) := by decide +kernel
theorem dX4_back_15 : decode cX4_back 15 = .ok (.iload_n 1, 1) := by decide +kernel
theorem dX4_back_16 : decode cX4_back 16 = .ok (.baload, 1) := by decide +kernel
theorem dX4_back_17 : decode cX4_back 17 = .ok (.ifCond .ne 6, 3) := by decide +kernel
theorem dX4_back_20 : decode cX4_back 20 = .ok (.bipush (-2), 2) := by decide +kernel
theorem dX4_back_22 : decode cX4_back 22 = .ok (.ireturn, 1) := by decide +kernel
theorem dX4_back_23 : decode cX4_back 23 = .ok (.aload_n 0, 1) := by decide +kernel
theorem dX4_back_24 : decode cX4_back 24 = .ok (.getfield 28, 3) := by decide +kernel
theorem dX4_back_27 : decode cX4_back 27 = .ok (.aload_n 0, 1) := by decide +kernel
theorem dX4_back_28 : decode cX4_back 28 = .ok (.getfield 43, 3) := by decide +kernel
theorem dX4_back_31 : decode cX4_back 31 = .ok (.iload_n 1, 1) := by decide +kernel
theorem dX4_back_32 : decode cX4_back 32 = .ok (.aaload, 1) := by decide +kernel
theorem dX4_back_33 : decode cX4_back 33 = .ok (.invokevirtual 164, 3) := by decide +kernel
theorem dX4_back_36 : decode cX4_back 36 = .ok (.aload_n 0, 1) := by decide +kernel
theorem dX4_back_37 : decode cX4_back 37 = .ok (.iconst 0, 1) := by decide +kernel
theorem dX4_back_38 : decode cX4_back 38 = .ok (.putfield 91, 3) := by decide +kernel
theorem dX4_back_41 : decode cX4_back 41 = .ok (.aload_n 0, 1) := by decide +kernel
theorem dX4_back_42 : decode cX4_back 42 = .ok (.getfield 28, 3) := by decide +kernel
theorem dX4_back_45 : decode cX4_back 45 = .ok (.getfield 122, 3) := by decide +kernel
theorem dX4_back_48 : decode cX4_back 48 = .ok (.ireturn, 1) := by decide +kernel
theorem dX4_count_0 : decode cX4_count 0 = .ok (.iload_n 1, 1) := by decide +kernel
theorem dX4_count_1 : decode cX4_count 1 = .ok (.tableswitch 60 0 3 #[31, 39, 47, 52], 31) := by decide +kernel
theorem dX4_count_32 : decode cX4_count 32 = .ok (.aload_n 0, 1) := by decide +kernel
theorem dX4_count_33 : decode cX4_count 33 = .ok (.getfield 19, 3) := by decide +kernel
theorem dX4_count_36 : decode cX4_count 36 = .ok (.getfield 151, 3) := by decide +kernel
theorem dX4_count_39 : decode cX4_count 39 = .ok (.ireturn, 1) := by decide +kernel
theorem dX4_count_40 : decode cX4_count 40 = .ok (.aload_n 0, 1) := by decide +kernel
theorem dX4_count_41 : decode cX4_count 41 = .ok (.getfield 19, 3) := by decide +kernel
theorem dX4_count_44 : decode cX4_count 44 = .ok (.getfield 266, 3) := by decide +kernel
theorem dX4_count_47 : decode cX4_count 47 = .ok (.ireturn, 1) := by decide +kernel
theorem dX4_count_48 : decode cX4_count 48 = .ok (.aload_n 0, 1) := by decide +kernel
theorem dX4_count_49 : decode cX4_count 49 = .ok (.getfield 88, 3) := by decide +kernel
theorem dX4_count_52 : decode cX4_count 52 = .ok (.ireturn, 1) := by decide +kernel
theorem dX4_count_53 : decode cX4_count 53 = .ok (.aload_n 0, 1) := by decide +kernel
theorem dX4_count_54 : decode cX4_count 54 = .ok (.getfield 10, 3) := by decide +kernel
theorem dX4_count_57 : decode cX4_count 57 = .ok (.getfield 71, 3) := by decide +kernel
theorem dX4_count_60 : decode cX4_count 60 = .ok (.ireturn, 1) := by decide +kernel
theorem dX4_count_61 : decode cX4_count 61 = .ok (.iconst (-1), 1) := by decide +kernel
theorem dX4_count_62 : decode cX4_count 62 = .ok (.ireturn, 1) := by decide +kernel
theorem dX4_trace_0 : decode cX4_trace 0 = .ok (.aload_n 0, 1) := by decide +kernel
theorem dX4_trace_1 : decode cX4_trace 1 = .ok (.getfield 252, 3) := by decide +kernel
theorem dX4_trace_4 : decode cX4_trace 4 = .ok (.lreturn, 1) := by decide +kernel
theorem dX4_isWithin_0 : decode cX4_isWithin 0 = .ok (.iload_n 0, 1) := by decide +kernel
theorem dX4_isWithin_1 : decode cX4_isWithin 1 = .ok (.iload_n 1, 1) := by decide +kernel
theorem dX4_isWithin_2 : decode cX4_isWithin 2 = .ok (.if_icmp .lt 12, 3) := by decide +kernel
theorem dX4_isWithin_5 : decode cX4_isWithin 5 = .ok (.iload_n 0, 1) := by decide +kernel
theorem dX4_isWithin_6 : decode cX4_isWithin 6 = .ok (.iload_n 2, 1) := by decide +kernel
theorem dX4_isWithin_7 : decode cX4_isWithin 7 = .ok (.if_icmp .gt 7, 3) := by decide +kernel
theorem dX4_isWithin_10 : decode cX4_isWithin 10 = .ok (.iconst 1, 1) := by decide +kernel
theorem dX4_isWithin_11 : decode cX4_isWithin 11 = .ok (.goto 4, 3) := by decide +kernel
theorem dX4_isWithin_14 : decode cX4_isWithin 14 = .ok (.iconst 0, 1) := by decide +kernel
theorem dX4_isWithin_15 : decode cX4_isWithin 15 = .ok (.ireturn, 1) := by decide +kernel
theorem dX4_isSide_0 : decode cX4_isSide 0 = .ok (.aload_n 0, 1) := by decide +kernel
theorem dX4_isSide_1 : decode cX4_isSide 1 = .ok (.getfield 19, 3) := by decide +kernel
theorem dX4_isSide_4 : decode cX4_isSide 4 = .ok (.iload_n 1, 1) := by decide +kernel
theorem dX4_isSide_5 : decode cX4_isSide 5 = .ok (.invokevirtual 97, 3) := by decide +kernel
theorem dX4_isSide_8 : decode cX4_isSide 8 = .ok (.ireturn, 1) := by decide +kernel
theorem dX4_isStrength_0 : decode cX4_isStrength 0 = .ok (.iload_n 0, 1) := by decide +kernel
theorem dX4_isStrength_1 : decode cX4_isStrength 1 = .ok (.iconst 1, 1) := by decide +kernel
theorem dX4_isStrength_2 : decode cX4_isStrength 2 = .ok (.bipush 9, 2) := by decide +kernel
theorem dX4_isStrength_4 : decode cX4_isStrength 4 = .ok (.invokestatic 63, 3) := by decide +kernel
theorem dX4_isStrength_7 : decode cX4_isStrength 7 = .ok (.ireturn, 1) := by decide +kernel
theorem dX4_areCalms_0 : decode cX4_areCalms 0 = .ok (.iload_n 0, 1) := by decide +kernel
theorem dX4_areCalms_1 : decode cX4_areCalms 1 = .ok (.iconst 0, 1) := by decide +kernel
theorem dX4_areCalms_2 : decode cX4_areCalms 2 = .ok (.bipush 20, 2) := by decide +kernel
theorem dX4_areCalms_4 : decode cX4_areCalms 4 = .ok (.invokestatic 63, 3) := by decide +kernel
theorem dX4_areCalms_7 : decode cX4_areCalms 7 = .ok (.ireturn, 1) := by decide +kernel
theorem dX4_gustNumber_0 : decode cX4_gustNumber 0 = .ok (.bipush 10, 2) := by decide +kernel
theorem dX4_gustNumber_2 : decode cX4_gustNumber 2 = .ok (.iload_n 0, 1) := by decide +kernel
theorem dX4_gustNumber_3 : decode cX4_gustNumber 3 = .ok (.imul, 1) := by decide +kernel
theorem dX4_gustNumber_4 : decode cX4_gustNumber 4 = .ok (.iload_n 1, 1) := by decide +kernel
theorem dX4_gustNumber_5 : decode cX4_gustNumber 5 = .ok (.iadd, 1) := by decide +kernel
theorem dX4_gustNumber_6 : decode cX4_gustNumber 6 = .ok (.ireturn, 1) := by decide +kernel
end
section
theorem dX5_init_0 : decode cX5_init 0 = .ok (.aload_n 0, 1) := by decide +kernel
theorem dX5_init_1 : decode cX5_init 1 = .ok (.invokespecial 1, 3) := by decide +kernel
theorem dX5_init_4 : decode cX5_init 4 = .ok (.aload_n 0, 1) := by decide +kernel
theorem dX5_init_5 : decode cX5_init 5 = .ok (.bipush 120, 2) := by decide +kernel
theorem dX5_init_7 : decode cX5_init 7 = .ok (.newarray .int, 2) := by decide +kernel
theorem dX5_init_9 : decode cX5_init 9 = .ok (.putfield 7, 3) := by decide +kernel
theorem dX5_init_12 : decode cX5_init 12 = .ok (.aload_n 0, 1) := by decide +kernel
theorem dX5_init_13 : decode cX5_init 13 = .ok (.bipush 16, 2) := by decide +kernel
theorem dX5_init_15 : decode cX5_init 15 = .ok (.newarray .int, 2) := by decide +kernel
theorem dX5_init_17 : decode cX5_init 17 = .ok (.putfield 13, 3) := by decide +kernel
theorem dX5_init_20 : decode cX5_init 20 = .ok (.aload_n 0, 1) := by decide +kernel
theorem dX5_init_21 : decode cX5_init 21 = .ok (.bipush 16, 2) := by decide +kernel
theorem dX5_init_23 : decode cX5_init 23 = .ok (.newarray .int, 2) := by decide +kernel
theorem dX5_init_25 : decode cX5_init 25 = .ok (.putfield 16, 3) := by decide +kernel
theorem dX5_init_28 : decode cX5_init 28 = .ok (.aload_n 0, 1) := by decide +kernel
theorem dX5_init_29 : decode cX5_init 29 = .ok (.bipush 16, 2) := by decide +kernel
theorem dX5_init_31 : decode cX5_init 31 = .ok (.newarray .int, 2) := by decide +kernel
theorem dX5_init_33 : decode cX5_init 33 = .ok (.putfield 19, 3) := by decide +kernel
theorem dX5_init_36 : decode cX5_init 36 = .ok (.aload_n 0, 1) := by decide +kernel
theorem dX5_init_37 : decode cX5_init 37 = .ok (.bipush 19, 2) := by decide +kernel
theorem dX5_init_39 : decode cX5_init 39 = .ok (.newarray .int, 2) := by decide +kernel
theorem dX5_init_41 : decode cX5_init 41 = .ok (.putfield 22, 3) := by decide +kernel
theorem dX5_init_44 : decode cX5_init 44 = .ok (.aload_n 0, 1) := by decide +kernel
theorem dX5_init_45 : decode cX5_init 45 = .ok (.bipush 19, 2) := by decide +kernel
theorem dX5_init_47 : decode cX5_init 47 = .ok (.newarray .int, 2) := by decide +kernel
theorem dX5_init_49 : decode cX5_init 49 = .ok (.putfield 25, 3) := by decide +kernel
theorem dX5_init_52 : decode cX5_init 52 = .ok (.aload_n 0, 1) := by decide +kernel
theorem dX5_init_53 : decode cX5_init 53 = .ok (.bipush 38, 2) := by decide +kernel
theorem dX5_init_55 : decode cX5_init 55 = .ok (.newarray .int, 2) := by decide +kernel
theorem dX5_init_57 : decode cX5_init 57 = .ok (.putfield 28, 3) := by decide +kernel
theorem dX5_init_60 : decode cX5_init 60 = .ok (.aload_n 0, 1) := by decide +kernel
theorem dX5_init_61 : decode cX5_init 61 = .ok (.iconst 2, 1) := by decide +kernel
theorem dX5_init_62 : decode cX5_init 62 = .ok (.newarray .boolean, 2) := by decide +kernel
theorem dX5_init_64 : decode cX5_init 64 = .ok (.putfield 31, 3) := by decide +kernel
theorem dX5_init_67 : decode cX5_init 67 = .ok (.aload_n 0, 1) := by decide +kernel
theorem dX5_init_68 : decode cX5_init 68 = .ok (.sipush 190, 3) := by decide +kernel
theorem dX5_init_71 : decode cX5_init 71 = .ok (.newarray .int, 2) := by decide +kernel
theorem dX5_init_73 : decode cX5_init 73 = .ok (.putfield 35, 3) := by decide +kernel
theorem dX5_init_76 : decode cX5_init 76 = .ok (.aload_n 0, 1) := by decide +kernel
theorem dX5_init_77 : decode cX5_init 77 = .ok (.bipush 6, 2) := by decide +kernel
theorem dX5_init_79 : decode cX5_init 79 = .ok (.newarray .int, 2) := by decide +kernel
theorem dX5_init_81 : decode cX5_init 81 = .ok (.putfield 38, 3) := by decide +kernel
theorem dX5_init_84 : decode cX5_init 84 = .ok (.aload_n 0, 1) := by decide +kernel
theorem dX5_init_85 : decode cX5_init 85 = .ok (.bipush 6, 2) := by decide +kernel
theorem dX5_init_87 : decode cX5_init 87 = .ok (.newarray .int, 2) := by decide +kernel
theorem dX5_init_89 : decode cX5_init 89 = .ok (.putfield 41, 3) := by decide +kernel
theorem dX5_init_92 : decode cX5_init 92 = .ok (.aload_n 0, 1) := by decide +kernel
theorem dX5_init_93 : decode cX5_init 93 = .ok (.bipush 6, 2) := by decide +kernel
theorem dX5_init_95 : decode cX5_init 95 = .ok (.newarray .int, 2) := by decide +kernel
theorem dX5_init_97 : decode cX5_init 97 = .ok (.putfield 44, 3) := by decide +kernel
theorem dX5_init_100 : decode cX5_init 100 = .ok (.aload_n 0, 1) := by decide +kernel
theorem dX5_init_101 : decode cX5_init 101 = .ok (.bipush 8, 2) := by decide +kernel
theorem dX5_init_103 : decode cX5_init 103 = .ok (.newarray .int, 2) := by decide +kernel
theorem dX5_init_105 : decode cX5_init 105 = .ok (.putfield 47, 3) := by decide +kernel
theorem dX5_init_108 : decode cX5_init 108 = .ok (.aload_n 0, 1) := by decide +kernel
theorem dX5_init_109 : decode cX5_init 109 = .ok (.iconst 1, 1) := by decide +kernel
theorem dX5_init_110 : decode cX5_init 110 = .ok (.putfield 50, 3) := by decide +kernel
theorem dX5_init_113 : decode cX5_init 113 = .ok (.return_, 1) := by decide +kernel
theorem dX5_in_0 : decode cX5_in 0 = .ok (.iload_n 0, 1) := by decide +kernel
theorem dX5_in_1 : decode cX5_in 1 = .ok (.iload_n 1, 1) := by decide +kernel
theorem dX5_in_2 : decode cX5_in 2 = .ok (.if_icmp .lt 12, 3) := by decide +kernel
theorem dX5_in_5 : decode cX5_in 5 = .ok (.iload_n 0, 1) := by decide +kernel
theorem dX5_in_6 : decode cX5_in 6 = .ok (.iload_n 2, 1) := by decide +kernel
theorem dX5_in_7 : decode cX5_in 7 = .ok (.if_icmp .gt 7, 3) := by decide +kernel
theorem dX5_in_10 : decode cX5_in 10 = .ok (.iconst 1, 1) := by decide +kernel
theorem dX5_in_11 : decode cX5_in 11 = .ok (.goto 4, 3) := by decide +kernel
theorem dX5_in_14 : decode cX5_in 14 = .ok (.iconst 0, 1) := by decide +kernel
theorem dX5_in_15 : decode cX5_in 15 = .ok (.ireturn, 1) := by decide +kernel
theorem dX5_has_0 : decode cX5_has 0 = .ok (.iload_n 0, 1) := by decide +kernel
theorem dX5_has_1 : decode cX5_has 1 = .ok (.iload_n 1, 1) := by decide +kernel
theorem dX5_has_2 : decode cX5_has 2 = .ok (.ishr, 1) := by decide +kernel
theorem dX5_has_3 : decode cX5_has 3 = .ok (.iconst 1, 1) := by decide +kernel
theorem dX5_has_4 : decode cX5_has 4 = .ok (.iand, 1) := by decide +kernel
theorem dX5_has_5 : decode cX5_has 5 = .ok (.iconst 1, 1) := by decide +kernel
theorem dX5_has_6 : decode cX5_has 6 = .ok (.if_icmp .ne 7, 3) := by decide +kernel
theorem dX5_has_9 : decode cX5_has 9 = .ok (.iconst 1, 1) := by decide +kernel
theorem dX5_has_10 : decode cX5_has 10 = .ok (.goto 4, 3) := by decide +kernel
theorem dX5_has_13 : decode cX5_has 13 = .ok (.iconst 0, 1) := by decide +kernel
theorem dX5_has_14 : decode cX5_has 14 = .ok (.ireturn, 1) := by decide +kernel
theorem dX5_ones_0 : decode cX5_ones 0 = .ok (.iconst 0, 1) := by decide +kernel
theorem dX5_ones_1 : decode cX5_ones 1 = .ok (.istore_n 1, 1) := by decide +kernel
theorem dX5_ones_2 : decode cX5_ones 2 = .ok (.iconst 0, 1) := by decide +kernel
theorem dX5_ones_3 : decode cX5_ones 3 = .ok (.istore_n 2, 1) := by decide +kernel
theorem dX5_ones_4 : decode cX5_ones 4 = .ok (.iload_n 2, 1) := by decide +kernel
theorem dX5_ones_5 : decode cX5_ones 5 = .ok (.bipush 8, 2) := by decide +kernel
theorem dX5_ones_7 : decode cX5_ones 7 = .ok (.if_icmp .ge 17, 3) := by decide +kernel
theorem dX5_ones_10 : decode cX5_ones 10 = .ok (.iload_n 1, 1) := by decide +kernel
theorem dX5_ones_11 : decode cX5_ones 11 = .ok (.iload_n 0, 1) := by decide +kernel
theorem dX5_ones_12 : decode cX5_ones 12 = .ok (.iload_n 2, 1) := by decide +kernel
theorem dX5_ones_13 : decode cX5_ones 13 = .ok (.ishr, 1) := by decide +kernel
theorem dX5_ones_14 : decode cX5_ones 14 = .ok (.iconst 1, 1) := by decide +kernel
theorem dX5_ones_15 : decode cX5_ones 15 = .ok (.iand, 1) := by decide +kernel
theorem dX5_ones_16 : decode cX5_ones 16 = .ok (.iadd, 1) := by decide +kernel
theorem dX5_ones_17 : decode cX5_ones 17 = .ok (.istore_n 1, 1) := by decide +kernel
theorem dX5_ones_18 : decode cX5_ones 18 = .ok (.iinc 2 1, 3) := by decide +kernel
theorem dX5_ones_21 : decode cX5_ones 21 = .ok (.goto (-17), 3) := by decide +kernel
theorem dX5_ones_24 : decode cX5_ones 24 = .ok (.iload_n 1, 1) := by decide +kernel
theorem dX5_ones_25 : decode cX5_ones 25 = .ok (.ireturn, 1) := by decide +kernel
theorem dX5_type_0 : decode cX5_type 0 = .ok (.aload_n 0, 1) := by decide +kernel
theorem dX5_type_1 : decode cX5_type 1 = .ok (.iconst 0, 1) := by decide +kernel
theorem dX5_type_2 : decode cX5_type 2 = .ok (.putfield 54, 3) := by decide +kernel
theorem dX5_type_5 : decode cX5_type 5 = .ok (.iload_n 1, 1) := by decide +kernel
theorem dX5_type_6 : decode cX5_type 6 = .ok (.iconst 0, 1) := by decide +kernel
theorem dX5_type_7 : decode cX5_type 7 = .ok (.sipush 255, 3) := by decide +kernel
theorem dX5_type_10 : decode cX5_type 10 = .ok (.invokestatic 57, 3) := by decide +kernel
theorem dX5_type_13 : decode cX5_type 13 = .ok (.ifCond .ne 5, 3) := by decide +kernel
theorem dX5_type_16 : decode cX5_type 16 = .ok (.iconst (-1), 1) := by decide +kernel
theorem dX5_type_17 : decode cX5_type 17 = .ok (.ireturn, 1) := by decide +kernel
theorem dX5_type_18 : decode cX5_type 18 = .ok (.aload_n 0, 1) := by decide +kernel
theorem dX5_type_19 : decode cX5_type 19 = .ok (.getfield 61, 3) := by decide +kernel
theorem dX5_type_22 : decode cX5_type 22 = .ok (.bipush 120, 2) := by decide +kernel
theorem dX5_type_24 : decode cX5_type 24 = .ok (.if_icmp .ne 6, 3) := by decide +kernel
theorem dX5_type_27 : decode cX5_type 27 = .ok (.bipush (-3), 2) := by decide +kernel
theorem dX5_type_29 : decode cX5_type 29 = .ok (.ireturn, 1) := by decide +kernel
theorem dX5_type_30 : decode cX5_type 30 = .ok (.aload_n 0, 1) := by decide +kernel
theorem dX5_type_31 : decode cX5_type 31 = .ok (.getfield 7, 3) := by decide +kernel
theorem dX5_type_34 : decode cX5_type 34 = .ok (.aload_n 0, 1) := by decide +kernel
theorem dX5_type_35 : decode cX5_type 35 = .ok (.getfield 61, 3) := by decide +kernel
theorem dX5_type_38 : decode cX5_type 38 = .ok (.iload_n 1, 1) := by decide +kernel
theorem dX5_type_39 : decode cX5_type 39 = .ok (.iastore, 1) := by decide +kernel
theorem dX5_type_40 : decode cX5_type 40 = .ok (.aload_n 0, 1) := by decide +kernel
theorem dX5_type_41 : decode cX5_type 41 = .ok (.dup, 1) := by decide +kernel
theorem dX5_type_42 : decode cX5_type 42 = .ok (.getfield 61, 3) := by decide +kernel
theorem dX5_type_45 : decode cX5_type 45 = .ok (.iconst 1, 1) := by decide +kernel
theorem dX5_type_46 : decode cX5_type 46 = .ok (.iadd, 1) := by decide +kernel
theorem dX5_type_47 : decode cX5_type 47 = .ok (.putfield 61, 3) := by decide +kernel
theorem dX5_type_50 : decode cX5_type 50 = .ok (.aload_n 0, 1) := by decide +kernel
theorem dX5_type_51 : decode cX5_type 51 = .ok (.getfield 61, 3) := by decide +kernel
theorem dX5_type_54 : decode cX5_type 54 = .ok (.ireturn, 1) := by decide +kernel
theorem dX5_clear_0 : decode cX5_clear 0 = .ok (.aload_n 0, 1) := by decide +kernel
theorem dX5_clear_1 : decode cX5_clear 1 = .ok (.iconst 0, 1) := by decide +kernel
theorem dX5_clear_2 : decode cX5_clear 2 = .ok (.putfield 54, 3) := by decide +kernel
theorem dX5_clear_5 : decode cX5_clear 5 = .ok (.aload_n 0, 1) := by decide +kernel
theorem dX5_clear_6 : decode cX5_clear 6 = .ok (.getfield 61, 3) := by decide +kernel
theorem dX5_clear_9 : decode cX5_clear 9 = .ok (.istore_n 1, 1) := by decide +kernel
theorem dX5_clear_10 : decode cX5_clear 10 = .ok (.aload_n 0, 1) := by decide +kernel
theorem dX5_clear_11 : decode cX5_clear 11 = .ok (.iconst 0, 1) := by decide +kernel
theorem dX5_clear_12 : decode cX5_clear 12 = .ok (.putfield 61, 3) := by decide +kernel
theorem dX5_clear_15 : decode cX5_clear 15 = .ok (.iload_n 1, 1) := by decide +kernel
theorem dX5_clear_16 : decode cX5_clear 16 = .ok (.ireturn, 1) := by decide +kernel
theorem dX5_letterAt_0 : decode cX5_letterAt 0 = .ok (.iload_n 1, 1) := by decide +kernel
theorem dX5_letterAt_1 : decode cX5_letterAt 1 = .ok (.aload_n 0, 1) := by decide +kernel
theorem dX5_letterAt_2 : decode cX5_letterAt 2 = .ok (.getfield 61, 3) := by decide +kernel
theorem dX5_letterAt_5 : decode cX5_letterAt 5 = .ok (.if_icmp .ge 12, 3) := by decide +kernel
theorem dX5_letterAt_8 : decode cX5_letterAt 8 = .ok (.aload_n 0, 1) := by decide +kernel
theorem dX5_letterAt_9 : decode cX5_letterAt 9 = .ok (.getfield 7, 3) := by decide +kernel
theorem dX5_letterAt_12 : decode cX5_letterAt 12 = .ok (.iload_n 1, 1) := by decide +kernel
theorem dX5_letterAt_13 : decode cX5_letterAt 13 = .ok (.iaload, 1) := by decide +kernel
theorem dX5_letterAt_14 : decode cX5_letterAt 14 = .ok (.goto 4, 3) := by decide +kernel
theorem dX5_letterAt_17 : decode cX5_letterAt 17 = .ok (.iconst (-1), 1) := by decide +kernel
theorem dX5_letterAt_18 : decode cX5_letterAt 18 = .ok (.ireturn, 1) := by decide +kernel
theorem dX5_advances_0 : decode cX5_advances 0 = .ok (.aload_n 0, 1) := by decide +kernel
theorem dX5_advances_1 : decode cX5_advances 1 = .ok (.aload_n 0, 1) := by decide +kernel
theorem dX5_advances_2 : decode cX5_advances 2 = .ok (.getfield 64, 3) := by decide +kernel
theorem dX5_advances_5 : decode cX5_advances 5 = .ok (.invokevirtual 67, 3) := by decide +kernel
theorem dX5_advances_8 : decode cX5_advances 8 = .ok (.bipush 32, 2) := by decide +kernel
theorem dX5_advances_10 : decode cX5_advances 10 = .ok (.if_icmp .ne 16, 3) := by decide +kernel
theorem dX5_advances_13 : decode cX5_advances 13 = .ok (.aload_n 0, 1) := by decide +kernel
theorem dX5_advances_14 : decode cX5_advances 14 = .ok (.dup, 1) := by decide +kernel
theorem dX5_advances_15 : decode cX5_advances 15 = .ok (.getfield 64, 3) := by decide +kernel
theorem dX5_advances_18 : decode cX5_advances 18 = .ok (.iconst 1, 1) := by decide +kernel
theorem dX5_advances_19 : decode cX5_advances 19 = .ok (.iadd, 1) := by decide +kernel
theorem dX5_advances_20 : decode cX5_advances 20 = .ok (.putfield 64, 3) := by decide +kernel
theorem dX5_advances_23 : decode cX5_advances 23 = .ok (.goto (-23), 3) := by decide +kernel
theorem dX5_advances_26 : decode cX5_advances 26 = .ok (.aload_n 0, 1) := by decide +kernel
theorem dX5_advances_27 : decode cX5_advances 27 = .ok (.aload_n 0, 1) := by decide +kernel
theorem dX5_advances_28 : decode cX5_advances 28 = .ok (.getfield 64, 3) := by decide +kernel
theorem dX5_advances_31 : decode cX5_advances 31 = .ok (.putfield 71, 3) := by decide +kernel
theorem dX5_advances_34 : decode cX5_advances 34 = .ok (.aload_n 0, 1) := by decide +kernel
theorem dX5_advances_35 : decode cX5_advances 35 = .ok (.aload_n 0, 1) := by decide +kernel
theorem dX5_advances_36 : decode cX5_advances 36 = .ok (.getfield 64, 3) := by decide +kernel
theorem dX5_advances_39 : decode cX5_advances 39 = .ok (.invokevirtual 67, 3) := by decide +kernel
theorem dX5_advances_42 : decode cX5_advances 42 = .ok (.istore_n 1, 1) := by decide +kernel
theorem dX5_advances_43 : decode cX5_advances 43 = .ok (.iload_n 1, 1) := by decide +kernel
theorem dX5_advances_44 : decode cX5_advances 44 = .ok (.ifCond .ge 11, 3) := by decide +kernel
theorem dX5_advances_47 : decode cX5_advances 47 = .ok (.aload_n 0, 1) := by decide +kernel
theorem dX5_advances_48 : decode cX5_advances 48 = .ok (.iconst 0, 1) := by decide +kernel
theorem dX5_advances_49 : decode cX5_advances 49 = .ok (.putfield 74, 3) := by decide +kernel
theorem dX5_advances_52 : decode cX5_advances 52 = .ok (.goto 175, 3) := by decide +kernel
theorem dX5_advances_55 : decode cX5_advances 55 = .ok (.iload_n 1, 1) := by decide +kernel
theorem dX5_advances_56 : decode cX5_advances 56 = .ok (.bipush 48, 2) := by decide +kernel
theorem dX5_advances_58 : decode cX5_advances 58 = .ok (.bipush 57, 2) := by decide +kernel
theorem dX5_advances_60 : decode cX5_advances 60 = .ok (.invokestatic 57, 3) := by decide +kernel
theorem dX5_advances_63 : decode cX5_advances 63 = .ok (.ifCond .eq 118, 3) := by decide +kernel
theorem dX5_advances_66 : decode cX5_advances 66 = .ok (.aload_n 0, 1) := by decide +kernel
theorem dX5_advances_67 : decode cX5_advances 67 = .ok (.iconst 0, 1) := by decide +kernel
theorem dX5_advances_68 : decode cX5_advances 68 = .ok (.putfield 77, 3) := by decide +kernel
theorem dX5_advances_71 : decode cX5_advances 71 = .ok (.aload_n 0, 1) := by decide +kernel
theorem dX5_advances_72 : decode cX5_advances 72 = .ok (.aload_n 0, 1) := by decide +kernel
theorem dX5_advances_73 : decode cX5_advances 73 = .ok (.getfield 64, 3) := by decide +kernel
theorem dX5_advances_76 : decode cX5_advances 76 = .ok (.invokevirtual 67, 3) := by decide +kernel
theorem dX5_advances_79 : decode cX5_advances 79 = .ok (.bipush 48, 2) := by decide +kernel
theorem dX5_advances_81 : decode cX5_advances 81 = .ok (.bipush 57, 2) := by decide +kernel
theorem dX5_advances_83 : decode cX5_advances 83 = .ok (.invokestatic 57, 3) := by decide +kernel
theorem dX5_advances_86 : decode cX5_advances 86 = .ok (.ifCond .eq 55, 3) := by decide +kernel
theorem dX5_advances_89 : decode cX5_advances 89 = .ok (.aload_n 0, 1) := by decide +kernel
theorem dX5_advances_90 : decode cX5_advances 90 = .ok (.aload_n 0, 1) := by decide +kernel
theorem dX5_advances_91 : decode cX5_advances 91 = .ok (.getfield 77, 3) := by decide +kernel
theorem dX5_advances_94 : decode cX5_advances 94 = .ok (.bipush 99, 2) := by decide +kernel
theorem dX5_advances_96 : decode cX5_advances 96 = .ok (.if_icmp .le 10, 3) := by decide +kernel
theorem dX5_advances_99 : decode cX5_advances 99 = .ok (.aload_n 0, 1) := by decide +kernel
theorem dX5_advances_100 : decode cX5_advances 100 = .ok (.getfield 77, 3) := by decide +kernel
theorem dX5_advances_103 : decode cX5_advances 103 = .ok (.goto 22, 3) := by decide +kernel
theorem dX5_advances_106 : decode cX5_advances 106 = .ok (.bipush 10, 2) := by decide +kernel
theorem dX5_advances_108 : decode cX5_advances 108 = .ok (.aload_n 0, 1) := by decide +kernel
theorem dX5_advances_109 : decode cX5_advances 109 = .ok (.getfield 77, 3) := by decide +kernel
theorem dX5_advances_112 : decode cX5_advances 112 = .ok (.imul, 1) := by decide +kernel
theorem dX5_advances_113 : decode cX5_advances 113 = .ok (.aload_n 0, 1) := by decide +kernel
theorem dX5_advances_114 : decode cX5_advances 114 = .ok (.aload_n 0, 1) := by decide +kernel
theorem dX5_advances_115 : decode cX5_advances 115 = .ok (.getfield 64, 3) := by decide +kernel
theorem dX5_advances_118 : decode cX5_advances 118 = .ok (.invokevirtual 67, 3) := by decide +kernel
theorem dX5_advances_121 : decode cX5_advances 121 = .ok (.iadd, 1) := by decide +kernel
theorem dX5_advances_122 : decode cX5_advances 122 = .ok (.bipush 48, 2) := by decide +kernel
theorem dX5_advances_124 : decode cX5_advances 124 = .ok (.isub, 1) := by decide +kernel
theorem dX5_advances_125 : decode cX5_advances 125 = .ok (.putfield 77, 3) := by decide +kernel
theorem dX5_advances_128 : decode cX5_advances 128 = .ok (.aload_n 0, 1) := by decide +kernel
theorem dX5_advances_129 : decode cX5_advances 129 = .ok (.dup, 1) := by decide +kernel
theorem dX5_advances_130 : decode cX5_advances 130 = .ok (.getfield 64, 3) := by decide +kernel
theorem dX5_advances_133 : decode cX5_advances 133 = .ok (.iconst 1, 1) := by decide +kernel
theorem dX5_advances_134 : decode cX5_advances 134 = .ok (.iadd, 1) := by decide +kernel
theorem dX5_advances_135 : decode cX5_advances 135 = .ok (.putfield 64, 3) := by decide +kernel
theorem dX5_advances_138 : decode cX5_advances 138 = .ok (.goto (-67), 3) := by decide +kernel
theorem dX5_advances_141 : decode cX5_advances 141 = .ok (.aload_n 0, 1) := by decide +kernel
theorem dX5_advances_142 : decode cX5_advances 142 = .ok (.aload_n 0, 1) := by decide +kernel
theorem dX5_advances_143 : decode cX5_advances 143 = .ok (.getfield 77, 3) := by decide +kernel
theorem dX5_advances_146 : decode cX5_advances 146 = .ok (.bipush 99, 2) := by decide +kernel
theorem dX5_advances_148 : decode cX5_advances 148 = .ok (.if_icmp .gt 22, 3) := by decide +kernel
theorem dX5_advances_151 : decode cX5_advances 151 = .ok (.iload_n 1, 1) := by decide +kernel
theorem dX5_advances_152 : decode cX5_advances 152 = .ok (.bipush 48, 2) := by decide +kernel
theorem dX5_advances_154 : decode cX5_advances 154 = .ok (.if_icmp .ne 20, 3) := by decide +kernel
theorem dX5_advances_157 : decode cX5_advances 157 = .ok (.aload_n 0, 1) := by decide +kernel
theorem dX5_advances_158 : decode cX5_advances 158 = .ok (.getfield 64, 3) := by decide +kernel
theorem dX5_advances_161 : decode cX5_advances 161 = .ok (.aload_n 0, 1) := by decide +kernel
theorem dX5_advances_162 : decode cX5_advances 162 = .ok (.getfield 71, 3) := by decide +kernel
theorem dX5_advances_165 : decode cX5_advances 165 = .ok (.isub, 1) := by decide +kernel
theorem dX5_advances_166 : decode cX5_advances 166 = .ok (.iconst 1, 1) := by decide +kernel
theorem dX5_advances_167 : decode cX5_advances 167 = .ok (.if_icmp .le 7, 3) := by decide +kernel
theorem dX5_advances_170 : decode cX5_advances 170 = .ok (.iconst 4, 1) := by decide +kernel
theorem dX5_advances_171 : decode cX5_advances 171 = .ok (.goto 4, 3) := by decide +kernel
theorem dX5_advances_174 : decode cX5_advances 174 = .ok (.iconst 2, 1) := by decide +kernel
theorem dX5_advances_175 : decode cX5_advances 175 = .ok (.putfield 74, 3) := by decide +kernel
theorem dX5_advances_178 : decode cX5_advances 178 = .ok (.goto 49, 3) := by decide +kernel
theorem dX5_advances_181 : decode cX5_advances 181 = .ok (.aload_n 0, 1) := by decide +kernel
theorem dX5_advances_182 : decode cX5_advances 182 = .ok (.dup, 1) := by decide +kernel
theorem dX5_advances_183 : decode cX5_advances 183 = .ok (.getfield 64, 3) := by decide +kernel
theorem dX5_advances_186 : decode cX5_advances 186 = .ok (.iconst 1, 1) := by decide +kernel
theorem dX5_advances_187 : decode cX5_advances 187 = .ok (.iadd, 1) := by decide +kernel
theorem dX5_advances_188 : decode cX5_advances 188 = .ok (.putfield 64, 3) := by decide +kernel
theorem dX5_advances_191 : decode cX5_advances 191 = .ok (.aload_n 0, 1) := by decide +kernel
theorem dX5_advances_192 : decode cX5_advances 192 = .ok (.iload_n 1, 1) := by decide +kernel
theorem dX5_advances_193 : decode cX5_advances 193 = .ok (.putfield 77, 3) := by decide +kernel
theorem dX5_advances_196 : decode cX5_advances 196 = .ok (.aload_n 0, 1) := by decide +kernel
theorem dX5_advances_197 : decode cX5_advances 197 = .ok (.iload_n 1, 1) := by decide +kernel
theorem dX5_advances_198 : decode cX5_advances 198 = .ok (.bipush 59, 2) := by decide +kernel
theorem dX5_advances_200 : decode cX5_advances 200 = .ok (.if_icmp .ne 7, 3) := by decide +kernel
theorem dX5_advances_203 : decode cX5_advances 203 = .ok (.iconst 3, 1) := by decide +kernel
theorem dX5_advances_204 : decode cX5_advances 204 = .ok (.goto 20, 3) := by decide +kernel
theorem dX5_advances_207 : decode cX5_advances 207 = .ok (.iload_n 1, 1) := by decide +kernel
theorem dX5_advances_208 : decode cX5_advances 208 = .ok (.bipush 114, 2) := by decide +kernel
theorem dX5_advances_210 : decode cX5_advances 210 = .ok (.if_icmp .eq 9, 3) := by decide +kernel
theorem dX5_advances_213 : decode cX5_advances 213 = .ok (.iload_n 1, 1) := by decide +kernel
theorem dX5_advances_214 : decode cX5_advances 214 = .ok (.bipush 100, 2) := by decide +kernel
theorem dX5_advances_216 : decode cX5_advances 216 = .ok (.if_icmp .ne 7, 3) := by decide +kernel
theorem dX5_advances_219 : decode cX5_advances 219 = .ok (.iconst 1, 1) := by decide +kernel
theorem dX5_advances_220 : decode cX5_advances 220 = .ok (.goto 4, 3) := by decide +kernel
theorem dX5_advances_223 : decode cX5_advances 223 = .ok (.iconst 4, 1) := by decide +kernel
theorem dX5_advances_224 : decode cX5_advances 224 = .ok (.putfield 74, 3) := by decide +kernel
theorem dX5_advances_227 : decode cX5_advances 227 = .ok (.return_, 1) := by decide +kernel
theorem dX5_isWell_0 : decode cX5_isWell 0 = .ok (.aload_n 0, 1) := by decide +kernel
theorem dX5_isWell_1 : decode cX5_isWell 1 = .ok (.getfield 80, 3) := by decide +kernel
theorem dX5_isWell_4 : decode cX5_isWell 4 = .ok (.ifCond .ge 7, 3) := by decide +kernel
theorem dX5_isWell_7 : decode cX5_isWell 7 = .ok (.iconst 1, 1) := by decide +kernel
theorem dX5_isWell_8 : decode cX5_isWell 8 = .ok (.goto 4, 3) := by decide +kernel
theorem dX5_isWell_11 : decode cX5_isWell 11 = .ok (.iconst 0, 1) := by decide +kernel
theorem dX5_isWell_12 : decode cX5_isWell 12 = .ok (.ireturn, 1) := by decide +kernel
theorem dX5_takes_0 : decode cX5_takes 0 = .ok (.aload_n 0, 1) := by decide +kernel
theorem dX5_takes_1 : decode cX5_takes 1 = .ok (.invokevirtual 83, 3) := by decide +kernel
theorem dX5_takes_4 : decode cX5_takes 4 = .ok (.ifCond .ne 5, 3) := by decide +kernel
theorem dX5_takes_7 : decode cX5_takes 7 = .ok (.iconst 0, 1) := by decide +kernel
theorem dX5_takes_8 : decode cX5_takes 8 = .ok (.ireturn, 1) := by decide +kernel
theorem dX5_takes_9 : decode cX5_takes 9 = .ok (.iload_n 1, 1) := by decide +kernel
theorem dX5_takes_10 : decode cX5_takes 10 = .ok (.ifCond .ne 13, 3) := by decide +kernel
theorem dX5_takes_13 : decode cX5_takes 13 = .ok (.aload_n 0, 1) := by decide +kernel
theorem dX5_takes_14 : decode cX5_takes 14 = .ok (.aload_n 0, 1) := by decide +kernel
theorem dX5_takes_15 : decode cX5_takes 15 = .ok (.getfield 71, 3) := by decide +kernel
theorem dX5_takes_18 : decode cX5_takes 18 = .ok (.putfield 80, 3) := by decide +kernel
theorem dX5_takes_21 : decode cX5_takes 21 = .ok (.iconst 0, 1) := by decide +kernel
theorem dX5_takes_22 : decode cX5_takes 22 = .ok (.ireturn, 1) := by decide +kernel
theorem dX5_takes_23 : decode cX5_takes 23 = .ok (.aload_n 0, 1) := by decide +kernel
theorem dX5_takes_24 : decode cX5_takes 24 = .ok (.getfield 77, 3) := by decide +kernel
theorem dX5_takes_27 : decode cX5_takes 27 = .ok (.istore_n 2, 1) := by decide +kernel
theorem dX5_takes_28 : decode cX5_takes 28 = .ok (.aload_n 0, 1) := by decide +kernel
theorem dX5_takes_29 : decode cX5_takes 29 = .ok (.invokevirtual 87, 3) := by decide +kernel
theorem dX5_takes_32 : decode cX5_takes 32 = .ok (.iload_n 2, 1) := by decide +kernel
theorem dX5_takes_33 : decode cX5_takes 33 = .ok (.ireturn, 1) := by decide +kernel
theorem dX5_number_0 : decode cX5_number 0 = .ok (.aload_n 0, 1) := by decide +kernel
theorem dX5_number_1 : decode cX5_number 1 = .ok (.aload_n 0, 1) := by decide +kernel
theorem dX5_number_2 : decode cX5_number 2 = .ok (.getfield 74, 3) := by decide +kernel
theorem dX5_number_5 : decode cX5_number 5 = .ok (.iconst 2, 1) := by decide +kernel
theorem dX5_number_6 : decode cX5_number 6 = .ok (.if_icmp .ne 19, 3) := by decide +kernel
theorem dX5_number_9 : decode cX5_number 9 = .ok (.aload_n 0, 1) := by decide +kernel
theorem dX5_number_10 : decode cX5_number 10 = .ok (.getfield 77, 3) := by decide +kernel
theorem dX5_number_13 : decode cX5_number 13 = .ok (.iload_n 1, 1) := by decide +kernel
theorem dX5_number_14 : decode cX5_number 14 = .ok (.iload_n 2, 1) := by decide +kernel
theorem dX5_number_15 : decode cX5_number 15 = .ok (.invokestatic 57, 3) := by decide +kernel
theorem dX5_number_18 : decode cX5_number 18 = .ok (.ifCond .eq 7, 3) := by decide +kernel
theorem dX5_number_21 : decode cX5_number 21 = .ok (.iconst 1, 1) := by decide +kernel
theorem dX5_number_22 : decode cX5_number 22 = .ok (.goto 4, 3) := by decide +kernel
theorem dX5_number_25 : decode cX5_number 25 = .ok (.iconst 0, 1) := by decide +kernel
theorem dX5_number_26 : decode cX5_number 26 = .ok (.invokevirtual 90, 3) := by decide +kernel
theorem dX5_number_29 : decode cX5_number 29 = .ok (.ireturn, 1) := by decide +kernel
theorem dX5_readsItem_0 : decode cX5_readsItem 0 = .ok (.iload_n 1, 1) := by decide +kernel
theorem dX5_readsItem_1 : decode cX5_readsItem 1 = .ok (.bipush 114, 2) := by decide +kernel
theorem dX5_readsItem_3 : decode cX5_readsItem 3 = .ok (.if_icmp .ne 63, 3) := by decide +kernel
theorem dX5_readsItem_6 : decode cX5_readsItem 6 = .ok (.bipush 8, 2) := by decide +kernel
theorem dX5_readsItem_8 : decode cX5_readsItem 8 = .ok (.aload_n 0, 1) := by decide +kernel
theorem dX5_readsItem_9 : decode cX5_readsItem 9 = .ok (.getfield 94, 3) := by decide +kernel
theorem dX5_readsItem_12 : decode cX5_readsItem 12 = .ok (.iadd, 1) := by decide +kernel
theorem dX5_readsItem_13 : decode cX5_readsItem 13 = .ok (.istore_n 2, 1) := by decide +kernel
theorem dX5_readsItem_14 : decode cX5_readsItem 14 = .ok (.aload_n 0, 1) := by decide +kernel
theorem dX5_readsItem_15 : decode cX5_readsItem 15 = .ok (.getfield 13, 3) := by decide +kernel
theorem dX5_readsItem_18 : decode cX5_readsItem 18 = .ok (.iload_n 2, 1) := by decide +kernel
theorem dX5_readsItem_19 : decode cX5_readsItem 19 = .ok (.aload_n 0, 1) := by decide +kernel
theorem dX5_readsItem_20 : decode cX5_readsItem 20 = .ok (.iconst 0, 1) := by decide +kernel
theorem dX5_readsItem_21 : decode cX5_readsItem 21 = .ok (.bipush 48, 2) := by decide +kernel
theorem dX5_readsItem_23 : decode cX5_readsItem 23 = .ok (.invokevirtual 97, 3) := by decide +kernel
theorem dX5_readsItem_26 : decode cX5_readsItem 26 = .ok (.iastore, 1) := by decide +kernel
theorem dX5_readsItem_27 : decode cX5_readsItem 27 = .ok (.aload_n 0, 1) := by decide +kernel
theorem dX5_readsItem_28 : decode cX5_readsItem 28 = .ok (.getfield 16, 3) := by decide +kernel
theorem dX5_readsItem_31 : decode cX5_readsItem 31 = .ok (.iload_n 2, 1) := by decide +kernel
theorem dX5_readsItem_32 : decode cX5_readsItem 32 = .ok (.aload_n 0, 1) := by decide +kernel
theorem dX5_readsItem_33 : decode cX5_readsItem 33 = .ok (.iconst 1, 1) := by decide +kernel
theorem dX5_readsItem_34 : decode cX5_readsItem 34 = .ok (.bipush 9, 2) := by decide +kernel
theorem dX5_readsItem_36 : decode cX5_readsItem 36 = .ok (.invokevirtual 97, 3) := by decide +kernel
theorem dX5_readsItem_39 : decode cX5_readsItem 39 = .ok (.iastore, 1) := by decide +kernel
theorem dX5_readsItem_40 : decode cX5_readsItem 40 = .ok (.aload_n 0, 1) := by decide +kernel
theorem dX5_readsItem_41 : decode cX5_readsItem 41 = .ok (.getfield 19, 3) := by decide +kernel
theorem dX5_readsItem_44 : decode cX5_readsItem 44 = .ok (.iload_n 2, 1) := by decide +kernel
theorem dX5_readsItem_45 : decode cX5_readsItem 45 = .ok (.aload_n 0, 1) := by decide +kernel
theorem dX5_readsItem_46 : decode cX5_readsItem 46 = .ok (.iconst 1, 1) := by decide +kernel
theorem dX5_readsItem_47 : decode cX5_readsItem 47 = .ok (.bipush 9, 2) := by decide +kernel
theorem dX5_readsItem_49 : decode cX5_readsItem 49 = .ok (.invokevirtual 97, 3) := by decide +kernel
theorem dX5_readsItem_52 : decode cX5_readsItem 52 = .ok (.iastore, 1) := by decide +kernel
theorem dX5_readsItem_53 : decode cX5_readsItem 53 = .ok (.aload_n 0, 1) := by decide +kernel
theorem dX5_readsItem_54 : decode cX5_readsItem 54 = .ok (.dup, 1) := by decide +kernel
theorem dX5_readsItem_55 : decode cX5_readsItem 55 = .ok (.getfield 94, 3) := by decide +kernel
theorem dX5_readsItem_58 : decode cX5_readsItem 58 = .ok (.iconst 1, 1) := by decide +kernel
theorem dX5_readsItem_59 : decode cX5_readsItem 59 = .ok (.iadd, 1) := by decide +kernel
theorem dX5_readsItem_60 : decode cX5_readsItem 60 = .ok (.putfield 94, 3) := by decide +kernel
theorem dX5_readsItem_63 : decode cX5_readsItem 63 = .ok (.goto 18, 3) := by decide +kernel
theorem dX5_readsItem_66 : decode cX5_readsItem 66 = .ok (.aload_n 0, 1) := by decide +kernel
theorem dX5_readsItem_67 : decode cX5_readsItem 67 = .ok (.aload_n 0, 1) := by decide +kernel
theorem dX5_readsItem_68 : decode cX5_readsItem 68 = .ok (.iconst 1, 1) := by decide +kernel
theorem dX5_readsItem_69 : decode cX5_readsItem 69 = .ok (.iconst 3, 1) := by decide +kernel
theorem dX5_readsItem_70 : decode cX5_readsItem 70 = .ok (.invokevirtual 97, 3) := by decide +kernel
theorem dX5_readsItem_73 : decode cX5_readsItem 73 = .ok (.putfield 101, 3) := by decide +kernel
theorem dX5_readsItem_76 : decode cX5_readsItem 76 = .ok (.aload_n 0, 1) := by decide +kernel
theorem dX5_readsItem_77 : decode cX5_readsItem 77 = .ok (.iconst 1, 1) := by decide +kernel
theorem dX5_readsItem_78 : decode cX5_readsItem 78 = .ok (.putfield 104, 3) := by decide +kernel
theorem dX5_readsItem_81 : decode cX5_readsItem 81 = .ok (.return_, 1) := by decide +kernel
theorem dX5_chime_0 : decode cX5_chime 0 = .ok (.aload_n 0, 1) := by decide +kernel
theorem dX5_chime_1 : decode cX5_chime 1 = .ok (.iconst 0, 1) := by decide +kernel
theorem dX5_chime_2 : decode cX5_chime 2 = .ok (.putfield 54, 3) := by decide +kernel
theorem dX5_chime_5 : decode cX5_chime 5 = .ok (.aload_n 0, 1) := by decide +kernel
theorem dX5_chime_6 : decode cX5_chime 6 = .ok (.iconst (-1), 1) := by decide +kernel
theorem dX5_chime_7 : decode cX5_chime 7 = .ok (.putfield 80, 3) := by decide +kernel
theorem dX5_chime_10 : decode cX5_chime 10 = .ok (.aload_n 0, 1) := by decide +kernel
theorem dX5_chime_11 : decode cX5_chime 11 = .ok (.iconst 0, 1) := by decide +kernel
theorem dX5_chime_12 : decode cX5_chime 12 = .ok (.putfield 64, 3) := by decide +kernel
theorem dX5_chime_15 : decode cX5_chime 15 = .ok (.aload_n 0, 1) := by decide +kernel
theorem dX5_chime_16 : decode cX5_chime 16 = .ok (.iconst 0, 1) := by decide +kernel
theorem dX5_chime_17 : decode cX5_chime 17 = .ok (.putfield 94, 3) := by decide +kernel
theorem dX5_chime_20 : decode cX5_chime 20 = .ok (.aload_n 0, 1) := by decide +kernel
theorem dX5_chime_21 : decode cX5_chime 21 = .ok (.iconst 1, 1) := by decide +kernel
theorem dX5_chime_22 : decode cX5_chime 22 = .ok (.putfield 101, 3) := by decide +kernel
theorem dX5_chime_25 : decode cX5_chime 25 = .ok (.aload_n 0, 1) := by decide +kernel
theorem dX5_chime_26 : decode cX5_chime 26 = .ok (.iconst 0, 1) := by decide +kernel
theorem dX5_chime_27 : decode cX5_chime 27 = .ok (.putfield 104, 3) := by decide +kernel
theorem dX5_chime_30 : decode cX5_chime 30 = .ok (.iconst 0, 1) := by decide +kernel
theorem dX5_chime_31 : decode cX5_chime 31 = .ok (.istore_n 1, 1) := by decide +kernel
theorem dX5_chime_32 : decode cX5_chime 32 = .ok (.aload_n 0, 1) := by decide +kernel
theorem dX5_chime_33 : decode cX5_chime 33 = .ok (.invokevirtual 87, 3) := by decide +kernel
theorem dX5_chime_36 : decode cX5_chime 36 = .ok (.aload_n 0, 1) := by decide +kernel
theorem dX5_chime_37 : decode cX5_chime 37 = .ok (.invokevirtual 83, 3) := by decide +kernel
theorem dX5_chime_40 : decode cX5_chime 40 = .ok (.ifCond .eq 92, 3) := by decide +kernel
theorem dX5_chime_43 : decode cX5_chime 43 = .ok (.aload_n 0, 1) := by decide +kernel
theorem dX5_chime_44 : decode cX5_chime 44 = .ok (.getfield 74, 3) := by decide +kernel
theorem dX5_chime_47 : decode cX5_chime 47 = .ok (.ifCond .eq 85, 3) := by decide +kernel
theorem dX5_chime_50 : decode cX5_chime 50 = .ok (.aload_n 0, 1) := by decide +kernel
theorem dX5_chime_51 : decode cX5_chime 51 = .ok (.aload_n 0, 1) := by decide +kernel
theorem dX5_chime_52 : decode cX5_chime 52 = .ok (.getfield 74, 3) := by decide +kernel
theorem dX5_chime_55 : decode cX5_chime 55 = .ok (.iconst 1, 1) := by decide +kernel
theorem dX5_chime_56 : decode cX5_chime 56 = .ok (.if_icmp .ne 35, 3) := by decide +kernel
theorem dX5_chime_59 : decode cX5_chime 59 = .ok (.aload_n 0, 1) := by decide +kernel
theorem dX5_chime_60 : decode cX5_chime 60 = .ok (.getfield 77, 3) := by decide +kernel
theorem dX5_chime_63 : decode cX5_chime 63 = .ok (.bipush 114, 2) := by decide +kernel
theorem dX5_chime_65 : decode cX5_chime 65 = .ok (.if_icmp .ne 15, 3) := by decide +kernel
theorem dX5_chime_68 : decode cX5_chime 68 = .ok (.aload_n 0, 1) := by decide +kernel
theorem dX5_chime_69 : decode cX5_chime 69 = .ok (.getfield 94, 3) := by decide +kernel
theorem dX5_chime_72 : decode cX5_chime 72 = .ok (.bipush 8, 2) := by decide +kernel
theorem dX5_chime_74 : decode cX5_chime 74 = .ok (.if_icmp .ge 17, 3) := by decide +kernel
theorem dX5_chime_77 : decode cX5_chime 77 = .ok (.goto 10, 3) := by decide +kernel
theorem dX5_chime_80 : decode cX5_chime 80 = .ok (.aload_n 0, 1) := by decide +kernel
theorem dX5_chime_81 : decode cX5_chime 81 = .ok (.getfield 104, 3) := by decide +kernel
theorem dX5_chime_84 : decode cX5_chime 84 = .ok (.ifCond .ne 7, 3) := by decide +kernel
theorem dX5_chime_87 : decode cX5_chime 87 = .ok (.iconst 1, 1) := by decide +kernel
theorem dX5_chime_88 : decode cX5_chime 88 = .ok (.goto 4, 3) := by decide +kernel
theorem dX5_chime_91 : decode cX5_chime 91 = .ok (.iconst 0, 1) := by decide +kernel
theorem dX5_chime_92 : decode cX5_chime 92 = .ok (.invokevirtual 90, 3) := by decide +kernel
theorem dX5_chime_95 : decode cX5_chime 95 = .ok (.istore_n 2, 1) := by decide +kernel
theorem dX5_chime_96 : decode cX5_chime 96 = .ok (.aload_n 0, 1) := by decide +kernel
theorem dX5_chime_97 : decode cX5_chime 97 = .ok (.invokevirtual 83, 3) := by decide +kernel
theorem dX5_chime_100 : decode cX5_chime 100 = .ok (.ifCond .eq 8, 3) := by decide +kernel
theorem dX5_chime_103 : decode cX5_chime 103 = .ok (.aload_n 0, 1) := by decide +kernel
theorem dX5_chime_104 : decode cX5_chime 104 = .ok (.iload_n 2, 1) := by decide +kernel
theorem dX5_chime_105 : decode cX5_chime 105 = .ok (.invokevirtual 108, 3) := by decide +kernel
theorem dX5_chime_108 : decode cX5_chime 108 = .ok (.aload_n 0, 1) := by decide +kernel
theorem dX5_chime_109 : decode cX5_chime 109 = .ok (.aload_n 0, 1) := by decide +kernel
theorem dX5_chime_110 : decode cX5_chime 110 = .ok (.getfield 74, 3) := by decide +kernel
theorem dX5_chime_113 : decode cX5_chime 113 = .ok (.iconst 3, 1) := by decide +kernel
theorem dX5_chime_114 : decode cX5_chime 114 = .ok (.if_icmp .ne 7, 3) := by decide +kernel
theorem dX5_chime_117 : decode cX5_chime 117 = .ok (.iconst 1, 1) := by decide +kernel
theorem dX5_chime_118 : decode cX5_chime 118 = .ok (.goto 4, 3) := by decide +kernel
theorem dX5_chime_121 : decode cX5_chime 121 = .ok (.iconst 0, 1) := by decide +kernel
theorem dX5_chime_122 : decode cX5_chime 122 = .ok (.invokevirtual 90, 3) := by decide +kernel
theorem dX5_chime_125 : decode cX5_chime 125 = .ok (.pop, 1) := by decide +kernel
theorem dX5_chime_126 : decode cX5_chime 126 = .ok (.iinc 1 1, 3) := by decide +kernel
theorem dX5_chime_129 : decode cX5_chime 129 = .ok (.goto (-93), 3) := by decide +kernel
theorem dX5_chime_132 : decode cX5_chime 132 = .ok (.aload_n 0, 1) := by decide +kernel
theorem dX5_chime_133 : decode cX5_chime 133 = .ok (.invokevirtual 83, 3) := by decide +kernel
theorem dX5_chime_136 : decode cX5_chime 136 = .ok (.ifCond .eq 19, 3) := by decide +kernel
theorem dX5_chime_139 : decode cX5_chime 139 = .ok (.aload_n 0, 1) := by decide +kernel
theorem dX5_chime_140 : decode cX5_chime 140 = .ok (.getfield 94, 3) := by decide +kernel
theorem dX5_chime_143 : decode cX5_chime 143 = .ok (.iconst 3, 1) := by decide +kernel
theorem dX5_chime_144 : decode cX5_chime 144 = .ok (.if_icmp .ge 11, 3) := by decide +kernel
theorem dX5_chime_147 : decode cX5_chime 147 = .ok (.aload_n 0, 1) := by decide +kernel
theorem dX5_chime_148 : decode cX5_chime 148 = .ok (.aload_n 0, 1) := by decide +kernel
theorem dX5_chime_149 : decode cX5_chime 149 = .ok (.getfield 61, 3) := by decide +kernel
theorem dX5_chime_152 : decode cX5_chime 152 = .ok (.putfield 80, 3) := by decide +kernel
theorem dX5_chime_155 : decode cX5_chime 155 = .ok (.aload_n 0, 1) := by decide +kernel
theorem dX5_chime_156 : decode cX5_chime 156 = .ok (.invokevirtual 83, 3) := by decide +kernel
theorem dX5_chime_159 : decode cX5_chime 159 = .ok (.ifCond .ne 11, 3) := by decide +kernel
theorem dX5_chime_162 : decode cX5_chime 162 = .ok (.bipush (-10), 2) := by decide +kernel
theorem dX5_chime_164 : decode cX5_chime 164 = .ok (.aload_n 0, 1) := by decide +kernel
theorem dX5_chime_165 : decode cX5_chime 165 = .ok (.getfield 80, 3) := by decide +kernel
theorem dX5_chime_168 : decode cX5_chime 168 = .ok (.isub, 1) := by decide +kernel
theorem dX5_chime_169 : decode cX5_chime 169 = .ok (.ireturn, 1) := by decide +kernel
theorem dX5_chime_170 : decode cX5_chime 170 = .ok (.aload_n 0, 1) := by decide +kernel
theorem dX5_chime_171 : decode cX5_chime 171 = .ok (.invokevirtual 112, 3) := by decide +kernel
theorem dX5_chime_174 : decode cX5_chime 174 = .ok (.iload_n 1, 1) := by decide +kernel
theorem dX5_chime_175 : decode cX5_chime 175 = .ok (.ireturn, 1) := by decide +kernel
theorem dX5_settles_0 : decode cX5_settles 0 = .ok (.aload_n 0, 1) := by decide +kernel
theorem dX5_settles_1 : decode cX5_settles 1 = .ok (.aload_n 0, 1) := by decide +kernel
theorem dX5_settles_2 : decode cX5_settles 2 = .ok (.getfield 94, 3) := by decide +kernel
theorem dX5_settles_5 : decode cX5_settles 5 = .ok (.putfield 115, 3) := by decide +kernel
theorem dX5_settles_8 : decode cX5_settles 8 = .ok (.aload_n 0, 1) := by decide +kernel
theorem dX5_settles_9 : decode cX5_settles 9 = .ok (.aload_n 0, 1) := by decide +kernel
theorem dX5_settles_10 : decode cX5_settles 10 = .ok (.getfield 101, 3) := by decide +kernel
theorem dX5_settles_13 : decode cX5_settles 13 = .ok (.putfield 50, 3) := by decide +kernel
theorem dX5_settles_16 : decode cX5_settles 16 = .ok (.iconst 0, 1) := by decide +kernel
theorem dX5_settles_17 : decode cX5_settles 17 = .ok (.istore_n 1, 1) := by decide +kernel
theorem dX5_settles_18 : decode cX5_settles 18 = .ok (.iload_n 1, 1) := by decide +kernel
theorem dX5_settles_19 : decode cX5_settles 19 = .ok (.bipush 19, 2) := by decide +kernel
theorem dX5_settles_21 : decode cX5_settles 21 = .ok (.if_icmp .ge 16, 3) := by decide +kernel
theorem dX5_settles_24 : decode cX5_settles 24 = .ok (.aload_n 0, 1) := by decide +kernel
theorem dX5_settles_25 : decode cX5_settles 25 = .ok (.getfield 22, 3) := by decide +kernel
theorem dX5_settles_28 : decode cX5_settles 28 = .ok (.iload_n 1, 1) := by decide +kernel
theorem dX5_settles_29 : decode cX5_settles 29 = .ok (.iconst 0, 1) := by decide +kernel
theorem dX5_settles_30 : decode cX5_settles 30 = .ok (.iastore, 1) := by decide +kernel
theorem dX5_settles_31 : decode cX5_settles 31 = .ok (.iinc 1 1, 3) := by decide +kernel
theorem dX5_settles_34 : decode cX5_settles 34 = .ok (.goto (-16), 3) := by decide +kernel
theorem dX5_settles_37 : decode cX5_settles 37 = .ok (.iconst 0, 1) := by decide +kernel
theorem dX5_settles_38 : decode cX5_settles 38 = .ok (.istore_n 1, 1) := by decide +kernel
theorem dX5_settles_39 : decode cX5_settles 39 = .ok (.iload_n 1, 1) := by decide +kernel
theorem dX5_settles_40 : decode cX5_settles 40 = .ok (.bipush 8, 2) := by decide +kernel
theorem dX5_settles_42 : decode cX5_settles 42 = .ok (.if_icmp .ge 63, 3) := by decide +kernel
theorem dX5_settles_45 : decode cX5_settles 45 = .ok (.aload_n 0, 1) := by decide +kernel
theorem dX5_settles_46 : decode cX5_settles 46 = .ok (.getfield 13, 3) := by decide +kernel
theorem dX5_settles_49 : decode cX5_settles 49 = .ok (.iload_n 1, 1) := by decide +kernel
theorem dX5_settles_50 : decode cX5_settles 50 = .ok (.aload_n 0, 1) := by decide +kernel
theorem dX5_settles_51 : decode cX5_settles 51 = .ok (.getfield 13, 3) := by decide +kernel
theorem dX5_settles_54 : decode cX5_settles 54 = .ok (.bipush 8, 2) := by decide +kernel
theorem dX5_settles_56 : decode cX5_settles 56 = .ok (.iload_n 1, 1) := by decide +kernel
theorem dX5_settles_57 : decode cX5_settles 57 = .ok (.iadd, 1) := by decide +kernel
theorem dX5_settles_58 : decode cX5_settles 58 = .ok (.iaload, 1) := by decide +kernel
theorem dX5_settles_59 : decode cX5_settles 59 = .ok (.iastore, 1) := by decide +kernel
theorem dX5_settles_60 : decode cX5_settles 60 = .ok (.aload_n 0, 1) := by decide +kernel
theorem dX5_settles_61 : decode cX5_settles 61 = .ok (.getfield 16, 3) := by decide +kernel
theorem dX5_settles_64 : decode cX5_settles 64 = .ok (.iload_n 1, 1) := by decide +kernel
theorem dX5_settles_65 : decode cX5_settles 65 = .ok (.aload_n 0, 1) := by decide +kernel
theorem dX5_settles_66 : decode cX5_settles 66 = .ok (.getfield 16, 3) := by decide +kernel
theorem dX5_settles_69 : decode cX5_settles 69 = .ok (.bipush 8, 2) := by decide +kernel
theorem dX5_settles_71 : decode cX5_settles 71 = .ok (.iload_n 1, 1) := by decide +kernel
theorem dX5_settles_72 : decode cX5_settles 72 = .ok (.iadd, 1) := by decide +kernel
theorem dX5_settles_73 : decode cX5_settles 73 = .ok (.iaload, 1) := by decide +kernel
theorem dX5_settles_74 : decode cX5_settles 74 = .ok (.iastore, 1) := by decide +kernel
theorem dX5_settles_75 : decode cX5_settles 75 = .ok (.aload_n 0, 1) := by decide +kernel
theorem dX5_settles_76 : decode cX5_settles 76 = .ok (.getfield 19, 3) := by decide +kernel
theorem dX5_settles_79 : decode cX5_settles 79 = .ok (.iload_n 1, 1) := by decide +kernel
theorem dX5_settles_80 : decode cX5_settles 80 = .ok (.aload_n 0, 1) := by decide +kernel
theorem dX5_settles_81 : decode cX5_settles 81 = .ok (.getfield 19, 3) := by decide +kernel
theorem dX5_settles_84 : decode cX5_settles 84 = .ok (.bipush 8, 2) := by decide +kernel
theorem dX5_settles_86 : decode cX5_settles 86 = .ok (.iload_n 1, 1) := by decide +kernel
theorem dX5_settles_87 : decode cX5_settles 87 = .ok (.iadd, 1) := by decide +kernel
theorem dX5_settles_88 : decode cX5_settles 88 = .ok (.iaload, 1) := by decide +kernel
theorem dX5_settles_89 : decode cX5_settles 89 = .ok (.iastore, 1) := by decide +kernel
theorem dX5_settles_90 : decode cX5_settles 90 = .ok (.aload_n 0, 1) := by decide +kernel
theorem dX5_settles_91 : decode cX5_settles 91 = .ok (.getfield 22, 3) := by decide +kernel
theorem dX5_settles_94 : decode cX5_settles 94 = .ok (.iconst 3, 1) := by decide +kernel
theorem dX5_settles_95 : decode cX5_settles 95 = .ok (.iload_n 1, 1) := by decide +kernel
theorem dX5_settles_96 : decode cX5_settles 96 = .ok (.iadd, 1) := by decide +kernel
theorem dX5_settles_97 : decode cX5_settles 97 = .ok (.iload_n 1, 1) := by decide +kernel
theorem dX5_settles_98 : decode cX5_settles 98 = .ok (.iastore, 1) := by decide +kernel
theorem dX5_settles_99 : decode cX5_settles 99 = .ok (.iinc 1 1, 3) := by decide +kernel
theorem dX5_settles_102 : decode cX5_settles 102 = .ok (.goto (-63), 3) := by decide +kernel
theorem dX5_settles_105 : decode cX5_settles 105 = .ok (.aload_n 0, 1) := by decide +kernel
theorem dX5_settles_106 : decode cX5_settles 106 = .ok (.iconst 0, 1) := by decide +kernel
theorem dX5_settles_107 : decode cX5_settles 107 = .ok (.putfield 61, 3) := by decide +kernel
theorem dX5_settles_110 : decode cX5_settles 110 = .ok (.aload_n 0, 1) := by decide +kernel
theorem dX5_settles_111 : decode cX5_settles 111 = .ok (.iconst 0, 1) := by decide +kernel
theorem dX5_settles_112 : decode cX5_settles 112 = .ok (.putfield 118, 3) := by decide +kernel
theorem dX5_settles_115 : decode cX5_settles 115 = .ok (.aload_n 0, 1) := by decide +kernel
theorem dX5_settles_116 : decode cX5_settles 116 = .ok (.iconst 0, 1) := by decide +kernel
theorem dX5_settles_117 : decode cX5_settles 117 = .ok (.putfield 121, 3) := by decide +kernel
theorem dX5_settles_120 : decode cX5_settles 120 = .ok (.aload_n 0, 1) := by decide +kernel
theorem dX5_settles_121 : decode cX5_settles 121 = .ok (.getfield 31, 3) := by decide +kernel
theorem dX5_settles_124 : decode cX5_settles 124 = .ok (.iconst 0, 1) := by decide +kernel
theorem dX5_settles_125 : decode cX5_settles 125 = .ok (.iconst 0, 1) := by decide +kernel
theorem dX5_settles_126 : decode cX5_settles 126 = .ok (.bastore, 1) := by decide +kernel
theorem dX5_settles_127 : decode cX5_settles 127 = .ok (.aload_n 0, 1) := by decide +kernel
theorem dX5_settles_128 : decode cX5_settles 128 = .ok (.getfield 31, 3) := by decide +kernel
theorem dX5_settles_131 : decode cX5_settles 131 = .ok (.iconst 1, 1) := by decide +kernel
theorem dX5_settles_132 : decode cX5_settles 132 = .ok (.iconst 0, 1) := by decide +kernel
theorem dX5_settles_133 : decode cX5_settles 133 = .ok (.bastore, 1) := by decide +kernel
theorem dX5_settles_134 : decode cX5_settles 134 = .ok (.return_, 1) := by decide +kernel
theorem dX5_isRod_0 : decode cX5_isRod 0 = .ok (.iload_n 1, 1) := by decide +kernel
theorem dX5_isRod_1 : decode cX5_isRod 1 = .ok (.iconst 0, 1) := by decide +kernel
theorem dX5_isRod_2 : decode cX5_isRod 2 = .ok (.aload_n 0, 1) := by decide +kernel
theorem dX5_isRod_3 : decode cX5_isRod 3 = .ok (.getfield 115, 3) := by decide +kernel
theorem dX5_isRod_6 : decode cX5_isRod 6 = .ok (.iconst 1, 1) := by decide +kernel
theorem dX5_isRod_7 : decode cX5_isRod 7 = .ok (.isub, 1) := by decide +kernel
theorem dX5_isRod_8 : decode cX5_isRod 8 = .ok (.invokestatic 57, 3) := by decide +kernel
theorem dX5_isRod_11 : decode cX5_isRod 11 = .ok (.ireturn, 1) := by decide +kernel
theorem dX5_rodAt_0 : decode cX5_rodAt 0 = .ok (.bipush (-9), 2) := by decide +kernel
theorem dX5_rodAt_2 : decode cX5_rodAt 2 = .ok (.istore_n 3, 1) := by decide +kernel
theorem dX5_rodAt_3 : decode cX5_rodAt 3 = .ok (.iconst 0, 1) := by decide +kernel
theorem dX5_rodAt_4 : decode cX5_rodAt 4 = .ok (.istore 4, 2) := by decide +kernel
theorem dX5_rodAt_6 : decode cX5_rodAt 6 = .ok (.iload 4, 2) := by decide +kernel
theorem dX5_rodAt_8 : decode cX5_rodAt 8 = .ok (.aload_n 0, 1) := by decide +kernel
theorem dX5_rodAt_9 : decode cX5_rodAt 9 = .ok (.getfield 115, 3) := by decide +kernel
theorem dX5_rodAt_12 : decode cX5_rodAt 12 = .ok (.if_icmp .ge 26, 3) := by decide +kernel
theorem dX5_rodAt_15 : decode cX5_rodAt 15 = .ok (.aload_n 1, 1) := by decide +kernel
theorem dX5_rodAt_16 : decode cX5_rodAt 16 = .ok (.iconst 3, 1) := by decide +kernel
theorem dX5_rodAt_17 : decode cX5_rodAt 17 = .ok (.iload 4, 2) := by decide +kernel
theorem dX5_rodAt_19 : decode cX5_rodAt 19 = .ok (.iadd, 1) := by decide +kernel
theorem dX5_rodAt_20 : decode cX5_rodAt 20 = .ok (.iaload, 1) := by decide +kernel
theorem dX5_rodAt_21 : decode cX5_rodAt 21 = .ok (.iload_n 2, 1) := by decide +kernel
theorem dX5_rodAt_22 : decode cX5_rodAt 22 = .ok (.if_icmp .ne 8, 3) := by decide +kernel
theorem dX5_rodAt_25 : decode cX5_rodAt 25 = .ok (.iload 4, 2) := by decide +kernel
theorem dX5_rodAt_27 : decode cX5_rodAt 27 = .ok (.goto 4, 3) := by decide +kernel
theorem dX5_rodAt_30 : decode cX5_rodAt 30 = .ok (.iload_n 3, 1) := by decide +kernel
theorem dX5_rodAt_31 : decode cX5_rodAt 31 = .ok (.istore_n 3, 1) := by decide +kernel
theorem dX5_rodAt_32 : decode cX5_rodAt 32 = .ok (.iinc 4 1, 3) := by decide +kernel
theorem dX5_rodAt_35 : decode cX5_rodAt 35 = .ok (.goto (-29), 3) := by decide +kernel
theorem dX5_rodAt_38 : decode cX5_rodAt 38 = .ok (.iload_n 3, 1) := by decide +kernel
theorem dX5_rodAt_39 : decode cX5_rodAt 39 = .ok (.ireturn, 1) := by decide +kernel
theorem dX5_ringing_0 : decode cX5_ringing 0 = .ok (.iconst 0, 1) := by decide +kernel
theorem dX5_ringing_1 : decode cX5_ringing 1 = .ok (.istore_n 2, 1) := by decide +kernel
theorem dX5_ringing_2 : decode cX5_ringing 2 = .ok (.iconst 0, 1) := by decide +kernel
theorem dX5_ringing_3 : decode cX5_ringing 3 = .ok (.istore_n 3, 1) := by decide +kernel
theorem dX5_ringing_4 : decode cX5_ringing 4 = .ok (.iload_n 3, 1) := by decide +kernel
theorem dX5_ringing_5 : decode cX5_ringing 5 = .ok (.aload_n 0, 1) := by decide +kernel
theorem dX5_ringing_6 : decode cX5_ringing 6 = .ok (.getfield 115, 3) := by decide +kernel
theorem dX5_ringing_9 : decode cX5_ringing 9 = .ok (.if_icmp .ge 28, 3) := by decide +kernel
theorem dX5_ringing_12 : decode cX5_ringing 12 = .ok (.iload_n 2, 1) := by decide +kernel
theorem dX5_ringing_13 : decode cX5_ringing 13 = .ok (.aload_n 1, 1) := by decide +kernel
theorem dX5_ringing_14 : decode cX5_ringing 14 = .ok (.bipush 11, 2) := by decide +kernel
theorem dX5_ringing_16 : decode cX5_ringing 16 = .ok (.iload_n 3, 1) := by decide +kernel
theorem dX5_ringing_17 : decode cX5_ringing 17 = .ok (.iadd, 1) := by decide +kernel
theorem dX5_ringing_18 : decode cX5_ringing 18 = .ok (.iaload, 1) := by decide +kernel
theorem dX5_ringing_19 : decode cX5_ringing 19 = .ok (.ifCond .le 9, 3) := by decide +kernel
theorem dX5_ringing_22 : decode cX5_ringing 22 = .ok (.iconst 1, 1) := by decide +kernel
theorem dX5_ringing_23 : decode cX5_ringing 23 = .ok (.iload_n 3, 1) := by decide +kernel
theorem dX5_ringing_24 : decode cX5_ringing 24 = .ok (.ishl, 1) := by decide +kernel
theorem dX5_ringing_25 : decode cX5_ringing 25 = .ok (.goto 4, 3) := by decide +kernel
theorem dX5_ringing_28 : decode cX5_ringing 28 = .ok (.iconst 0, 1) := by decide +kernel
theorem dX5_ringing_29 : decode cX5_ringing 29 = .ok (.ior, 1) := by decide +kernel
theorem dX5_ringing_30 : decode cX5_ringing 30 = .ok (.istore_n 2, 1) := by decide +kernel
theorem dX5_ringing_31 : decode cX5_ringing 31 = .ok (.iinc 3 1, 3) := by decide +kernel
theorem dX5_ringing_34 : decode cX5_ringing 34 = .ok (.goto (-30), 3) := by decide +kernel
theorem dX5_ringing_37 : decode cX5_ringing 37 = .ok (.iload_n 2, 1) := by decide +kernel
theorem dX5_ringing_38 : decode cX5_ringing 38 = .ok (.ireturn, 1) := by decide +kernel
theorem dX5_isHarsh_0 : decode cX5_isHarsh 0 = .ok (.aload_n 0, 1) := by decide +kernel
theorem dX5_isHarsh_1 : decode cX5_isHarsh 1 = .ok (.getfield 13, 3) := by decide +kernel
theorem dX5_isHarsh_4 : decode cX5_isHarsh 4 = .ok (.iload_n 1, 1) := by decide +kernel
theorem dX5_isHarsh_5 : decode cX5_isHarsh 5 = .ok (.iaload, 1) := by decide +kernel
theorem dX5_isHarsh_6 : decode cX5_isHarsh 6 = .ok (.aload_n 0, 1) := by decide +kernel
theorem dX5_isHarsh_7 : decode cX5_isHarsh 7 = .ok (.getfield 13, 3) := by decide +kernel
theorem dX5_isHarsh_10 : decode cX5_isHarsh 10 = .ok (.iload_n 2, 1) := by decide +kernel
theorem dX5_isHarsh_11 : decode cX5_isHarsh 11 = .ok (.iaload, 1) := by decide +kernel
end
section
theorem dX5_isHarsh_12 : decode cX5_isHarsh 12 = .ok (.isub, 1) := by decide +kernel
theorem dX5_isHarsh_13 : decode cX5_isHarsh 13 = .ok (.bipush 120, 2) := by decide +kernel
theorem dX5_isHarsh_15 : decode cX5_isHarsh 15 = .ok (.iadd, 1) := by decide +kernel
theorem dX5_isHarsh_16 : decode cX5_isHarsh 16 = .ok (.bipush 12, 2) := by decide +kernel
theorem dX5_isHarsh_18 : decode cX5_isHarsh 18 = .ok (.irem, 1) := by decide +kernel
theorem dX5_isHarsh_19 : decode cX5_isHarsh 19 = .ok (.istore_n 3, 1) := by decide +kernel
theorem dX5_isHarsh_20 : decode cX5_isHarsh 20 = .ok (.iload_n 3, 1) := by decide +kernel
theorem dX5_isHarsh_21 : decode cX5_isHarsh 21 = .ok (.iconst 1, 1) := by decide +kernel
theorem dX5_isHarsh_22 : decode cX5_isHarsh 22 = .ok (.if_icmp .eq 26, 3) := by decide +kernel
theorem dX5_isHarsh_25 : decode cX5_isHarsh 25 = .ok (.iload_n 3, 1) := by decide +kernel
theorem dX5_isHarsh_26 : decode cX5_isHarsh 26 = .ok (.iconst 2, 1) := by decide +kernel
theorem dX5_isHarsh_27 : decode cX5_isHarsh 27 = .ok (.if_icmp .eq 21, 3) := by decide +kernel
theorem dX5_isHarsh_30 : decode cX5_isHarsh 30 = .ok (.iload_n 3, 1) := by decide +kernel
theorem dX5_isHarsh_31 : decode cX5_isHarsh 31 = .ok (.bipush 6, 2) := by decide +kernel
theorem dX5_isHarsh_33 : decode cX5_isHarsh 33 = .ok (.if_icmp .eq 15, 3) := by decide +kernel
theorem dX5_isHarsh_36 : decode cX5_isHarsh 36 = .ok (.iload_n 3, 1) := by decide +kernel
theorem dX5_isHarsh_37 : decode cX5_isHarsh 37 = .ok (.bipush 10, 2) := by decide +kernel
theorem dX5_isHarsh_39 : decode cX5_isHarsh 39 = .ok (.if_icmp .eq 9, 3) := by decide +kernel
theorem dX5_isHarsh_42 : decode cX5_isHarsh 42 = .ok (.iload_n 3, 1) := by decide +kernel
theorem dX5_isHarsh_43 : decode cX5_isHarsh 43 = .ok (.bipush 11, 2) := by decide +kernel
theorem dX5_isHarsh_45 : decode cX5_isHarsh 45 = .ok (.if_icmp .ne 7, 3) := by decide +kernel
theorem dX5_isHarsh_48 : decode cX5_isHarsh 48 = .ok (.iconst 1, 1) := by decide +kernel
theorem dX5_isHarsh_49 : decode cX5_isHarsh 49 = .ok (.goto 4, 3) := by decide +kernel
theorem dX5_isHarsh_52 : decode cX5_isHarsh 52 = .ok (.iconst 0, 1) := by decide +kernel
theorem dX5_isHarsh_53 : decode cX5_isHarsh 53 = .ok (.ireturn, 1) := by decide +kernel
theorem dX5_harshOf_0 : decode cX5_harshOf 0 = .ok (.iconst 0, 1) := by decide +kernel
theorem dX5_harshOf_1 : decode cX5_harshOf 1 = .ok (.istore_n 2, 1) := by decide +kernel
theorem dX5_harshOf_2 : decode cX5_harshOf 2 = .ok (.iconst 0, 1) := by decide +kernel
theorem dX5_harshOf_3 : decode cX5_harshOf 3 = .ok (.istore_n 3, 1) := by decide +kernel
theorem dX5_harshOf_4 : decode cX5_harshOf 4 = .ok (.iload_n 3, 1) := by decide +kernel
theorem dX5_harshOf_5 : decode cX5_harshOf 5 = .ok (.aload_n 0, 1) := by decide +kernel
theorem dX5_harshOf_6 : decode cX5_harshOf 6 = .ok (.getfield 115, 3) := by decide +kernel
theorem dX5_harshOf_9 : decode cX5_harshOf 9 = .ok (.if_icmp .ge 66, 3) := by decide +kernel
theorem dX5_harshOf_12 : decode cX5_harshOf 12 = .ok (.iload_n 3, 1) := by decide +kernel
theorem dX5_harshOf_13 : decode cX5_harshOf 13 = .ok (.iconst 1, 1) := by decide +kernel
theorem dX5_harshOf_14 : decode cX5_harshOf 14 = .ok (.iadd, 1) := by decide +kernel
theorem dX5_harshOf_15 : decode cX5_harshOf 15 = .ok (.istore 4, 2) := by decide +kernel
theorem dX5_harshOf_17 : decode cX5_harshOf 17 = .ok (.iload 4, 2) := by decide +kernel
theorem dX5_harshOf_19 : decode cX5_harshOf 19 = .ok (.aload_n 0, 1) := by decide +kernel
theorem dX5_harshOf_20 : decode cX5_harshOf 20 = .ok (.getfield 115, 3) := by decide +kernel
theorem dX5_harshOf_23 : decode cX5_harshOf 23 = .ok (.if_icmp .ge 46, 3) := by decide +kernel
theorem dX5_harshOf_26 : decode cX5_harshOf 26 = .ok (.iload_n 2, 1) := by decide +kernel
theorem dX5_harshOf_27 : decode cX5_harshOf 27 = .ok (.aload_n 1, 1) := by decide +kernel
theorem dX5_harshOf_28 : decode cX5_harshOf 28 = .ok (.bipush 11, 2) := by decide +kernel
theorem dX5_harshOf_30 : decode cX5_harshOf 30 = .ok (.iload_n 3, 1) := by decide +kernel
theorem dX5_harshOf_31 : decode cX5_harshOf 31 = .ok (.iadd, 1) := by decide +kernel
theorem dX5_harshOf_32 : decode cX5_harshOf 32 = .ok (.iaload, 1) := by decide +kernel
theorem dX5_harshOf_33 : decode cX5_harshOf 33 = .ok (.ifCond .le 27, 3) := by decide +kernel
theorem dX5_harshOf_36 : decode cX5_harshOf 36 = .ok (.aload_n 1, 1) := by decide +kernel
theorem dX5_harshOf_37 : decode cX5_harshOf 37 = .ok (.bipush 11, 2) := by decide +kernel
theorem dX5_harshOf_39 : decode cX5_harshOf 39 = .ok (.iload 4, 2) := by decide +kernel
theorem dX5_harshOf_41 : decode cX5_harshOf 41 = .ok (.iadd, 1) := by decide +kernel
theorem dX5_harshOf_42 : decode cX5_harshOf 42 = .ok (.iaload, 1) := by decide +kernel
theorem dX5_harshOf_43 : decode cX5_harshOf 43 = .ok (.ifCond .le 17, 3) := by decide +kernel
theorem dX5_harshOf_46 : decode cX5_harshOf 46 = .ok (.aload_n 0, 1) := by decide +kernel
theorem dX5_harshOf_47 : decode cX5_harshOf 47 = .ok (.iload_n 3, 1) := by decide +kernel
theorem dX5_harshOf_48 : decode cX5_harshOf 48 = .ok (.iload 4, 2) := by decide +kernel
theorem dX5_harshOf_50 : decode cX5_harshOf 50 = .ok (.invokevirtual 124, 3) := by decide +kernel
theorem dX5_harshOf_53 : decode cX5_harshOf 53 = .ok (.ifCond .eq 7, 3) := by decide +kernel
theorem dX5_harshOf_56 : decode cX5_harshOf 56 = .ok (.iconst 1, 1) := by decide +kernel
theorem dX5_harshOf_57 : decode cX5_harshOf 57 = .ok (.goto 4, 3) := by decide +kernel
theorem dX5_harshOf_60 : decode cX5_harshOf 60 = .ok (.iconst 0, 1) := by decide +kernel
theorem dX5_harshOf_61 : decode cX5_harshOf 61 = .ok (.iadd, 1) := by decide +kernel
theorem dX5_harshOf_62 : decode cX5_harshOf 62 = .ok (.istore_n 2, 1) := by decide +kernel
theorem dX5_harshOf_63 : decode cX5_harshOf 63 = .ok (.iinc 4 1, 3) := by decide +kernel
theorem dX5_harshOf_66 : decode cX5_harshOf 66 = .ok (.goto (-49), 3) := by decide +kernel
theorem dX5_harshOf_69 : decode cX5_harshOf 69 = .ok (.iinc 3 1, 3) := by decide +kernel
theorem dX5_harshOf_72 : decode cX5_harshOf 72 = .ok (.goto (-68), 3) := by decide +kernel
theorem dX5_harshOf_75 : decode cX5_harshOf 75 = .ok (.iload_n 2, 1) := by decide +kernel
theorem dX5_harshOf_76 : decode cX5_harshOf 76 = .ok (.ireturn, 1) := by decide +kernel
theorem dX5_beats_0 : decode cX5_beats 0 = .ok (.iconst 0, 1) := by decide +kernel
theorem dX5_beats_1 : decode cX5_beats 1 = .ok (.istore 4, 2) := by decide +kernel
theorem dX5_beats_3 : decode cX5_beats 3 = .ok (.iload 4, 2) := by decide +kernel
theorem dX5_beats_5 : decode cX5_beats 5 = .ok (.aload_n 0, 1) := by decide +kernel
theorem dX5_beats_6 : decode cX5_beats 6 = .ok (.getfield 115, 3) := by decide +kernel
theorem dX5_beats_9 : decode cX5_beats 9 = .ok (.if_icmp .ge 34, 3) := by decide +kernel
theorem dX5_beats_12 : decode cX5_beats 12 = .ok (.aload_n 1, 1) := by decide +kernel
theorem dX5_beats_13 : decode cX5_beats 13 = .ok (.bipush 11, 2) := by decide +kernel
theorem dX5_beats_15 : decode cX5_beats 15 = .ok (.iload 4, 2) := by decide +kernel
theorem dX5_beats_17 : decode cX5_beats 17 = .ok (.iadd, 1) := by decide +kernel
theorem dX5_beats_18 : decode cX5_beats 18 = .ok (.dup2, 1) := by decide +kernel
theorem dX5_beats_19 : decode cX5_beats 19 = .ok (.iaload, 1) := by decide +kernel
theorem dX5_beats_20 : decode cX5_beats 20 = .ok (.aload_n 1, 1) := by decide +kernel
theorem dX5_beats_21 : decode cX5_beats 21 = .ok (.bipush 11, 2) := by decide +kernel
theorem dX5_beats_23 : decode cX5_beats 23 = .ok (.iload 4, 2) := by decide +kernel
theorem dX5_beats_25 : decode cX5_beats 25 = .ok (.iadd, 1) := by decide +kernel
theorem dX5_beats_26 : decode cX5_beats 26 = .ok (.iaload, 1) := by decide +kernel
theorem dX5_beats_27 : decode cX5_beats 27 = .ok (.ifCond .le 7, 3) := by decide +kernel
theorem dX5_beats_30 : decode cX5_beats 30 = .ok (.iconst 1, 1) := by decide +kernel
theorem dX5_beats_31 : decode cX5_beats 31 = .ok (.goto 4, 3) := by decide +kernel
theorem dX5_beats_34 : decode cX5_beats 34 = .ok (.iconst 0, 1) := by decide +kernel
theorem dX5_beats_35 : decode cX5_beats 35 = .ok (.isub, 1) := by decide +kernel
theorem dX5_beats_36 : decode cX5_beats 36 = .ok (.iastore, 1) := by decide +kernel
theorem dX5_beats_37 : decode cX5_beats 37 = .ok (.iinc 4 1, 3) := by decide +kernel
theorem dX5_beats_40 : decode cX5_beats 40 = .ok (.goto (-37), 3) := by decide +kernel
theorem dX5_beats_43 : decode cX5_beats 43 = .ok (.iload_n 3, 1) := by decide +kernel
theorem dX5_beats_44 : decode cX5_beats 44 = .ok (.ifCond .le 21, 3) := by decide +kernel
theorem dX5_beats_47 : decode cX5_beats 47 = .ok (.iload_n 3, 1) := by decide +kernel
theorem dX5_beats_48 : decode cX5_beats 48 = .ok (.aload_n 1, 1) := by decide +kernel
theorem dX5_beats_49 : decode cX5_beats 49 = .ok (.iconst 2, 1) := by decide +kernel
theorem dX5_beats_50 : decode cX5_beats 50 = .ok (.iaload, 1) := by decide +kernel
theorem dX5_beats_51 : decode cX5_beats 51 = .ok (.if_icmp .lt 14, 3) := by decide +kernel
theorem dX5_beats_54 : decode cX5_beats 54 = .ok (.aload_n 1, 1) := by decide +kernel
theorem dX5_beats_55 : decode cX5_beats 55 = .ok (.iconst 1, 1) := by decide +kernel
theorem dX5_beats_56 : decode cX5_beats 56 = .ok (.iload_n 2, 1) := by decide +kernel
theorem dX5_beats_57 : decode cX5_beats 57 = .ok (.iastore, 1) := by decide +kernel
theorem dX5_beats_58 : decode cX5_beats 58 = .ok (.aload_n 1, 1) := by decide +kernel
theorem dX5_beats_59 : decode cX5_beats 59 = .ok (.iconst 2, 1) := by decide +kernel
theorem dX5_beats_60 : decode cX5_beats 60 = .ok (.iload_n 3, 1) := by decide +kernel
theorem dX5_beats_61 : decode cX5_beats 61 = .ok (.iastore, 1) := by decide +kernel
theorem dX5_beats_62 : decode cX5_beats 62 = .ok (.goto 46, 3) := by decide +kernel
theorem dX5_beats_65 : decode cX5_beats 65 = .ok (.aload_n 1, 1) := by decide +kernel
theorem dX5_beats_66 : decode cX5_beats 66 = .ok (.iconst 1, 1) := by decide +kernel
theorem dX5_beats_67 : decode cX5_beats 67 = .ok (.aload_n 1, 1) := by decide +kernel
theorem dX5_beats_68 : decode cX5_beats 68 = .ok (.iconst 1, 1) := by decide +kernel
theorem dX5_beats_69 : decode cX5_beats 69 = .ok (.iaload, 1) := by decide +kernel
theorem dX5_beats_70 : decode cX5_beats 70 = .ok (.aload_n 0, 1) := by decide +kernel
theorem dX5_beats_71 : decode cX5_beats 71 = .ok (.getfield 115, 3) := by decide +kernel
theorem dX5_beats_74 : decode cX5_beats 74 = .ok (.iconst 2, 1) := by decide +kernel
theorem dX5_beats_75 : decode cX5_beats 75 = .ok (.idiv, 1) := by decide +kernel
theorem dX5_beats_76 : decode cX5_beats 76 = .ok (.iadd, 1) := by decide +kernel
theorem dX5_beats_77 : decode cX5_beats 77 = .ok (.aload_n 0, 1) := by decide +kernel
theorem dX5_beats_78 : decode cX5_beats 78 = .ok (.getfield 115, 3) := by decide +kernel
theorem dX5_beats_81 : decode cX5_beats 81 = .ok (.irem, 1) := by decide +kernel
theorem dX5_beats_82 : decode cX5_beats 82 = .ok (.iastore, 1) := by decide +kernel
theorem dX5_beats_83 : decode cX5_beats 83 = .ok (.aload_n 1, 1) := by decide +kernel
theorem dX5_beats_84 : decode cX5_beats 84 = .ok (.iconst 2, 1) := by decide +kernel
theorem dX5_beats_85 : decode cX5_beats 85 = .ok (.aload_n 1, 1) := by decide +kernel
theorem dX5_beats_86 : decode cX5_beats 86 = .ok (.iconst 2, 1) := by decide +kernel
theorem dX5_beats_87 : decode cX5_beats 87 = .ok (.iaload, 1) := by decide +kernel
theorem dX5_beats_88 : decode cX5_beats 88 = .ok (.aload_n 0, 1) := by decide +kernel
theorem dX5_beats_89 : decode cX5_beats 89 = .ok (.getfield 50, 3) := by decide +kernel
theorem dX5_beats_92 : decode cX5_beats 92 = .ok (.if_icmp .le 14, 3) := by decide +kernel
theorem dX5_beats_95 : decode cX5_beats 95 = .ok (.aload_n 1, 1) := by decide +kernel
theorem dX5_beats_96 : decode cX5_beats 96 = .ok (.iconst 2, 1) := by decide +kernel
theorem dX5_beats_97 : decode cX5_beats 97 = .ok (.iaload, 1) := by decide +kernel
theorem dX5_beats_98 : decode cX5_beats 98 = .ok (.aload_n 0, 1) := by decide +kernel
theorem dX5_beats_99 : decode cX5_beats 99 = .ok (.getfield 50, 3) := by decide +kernel
theorem dX5_beats_102 : decode cX5_beats 102 = .ok (.isub, 1) := by decide +kernel
theorem dX5_beats_103 : decode cX5_beats 103 = .ok (.goto 4, 3) := by decide +kernel
theorem dX5_beats_106 : decode cX5_beats 106 = .ok (.iconst 0, 1) := by decide +kernel
theorem dX5_beats_107 : decode cX5_beats 107 = .ok (.iastore, 1) := by decide +kernel
theorem dX5_beats_108 : decode cX5_beats 108 = .ok (.aload_n 1, 1) := by decide +kernel
theorem dX5_beats_109 : decode cX5_beats 109 = .ok (.iconst 0, 1) := by decide +kernel
theorem dX5_beats_110 : decode cX5_beats 110 = .ok (.dup2, 1) := by decide +kernel
theorem dX5_beats_111 : decode cX5_beats 111 = .ok (.iaload, 1) := by decide +kernel
theorem dX5_beats_112 : decode cX5_beats 112 = .ok (.iconst 1, 1) := by decide +kernel
theorem dX5_beats_113 : decode cX5_beats 113 = .ok (.iadd, 1) := by decide +kernel
theorem dX5_beats_114 : decode cX5_beats 114 = .ok (.iastore, 1) := by decide +kernel
theorem dX5_beats_115 : decode cX5_beats 115 = .ok (.aload_n 0, 1) := by decide +kernel
theorem dX5_beats_116 : decode cX5_beats 116 = .ok (.aload_n 1, 1) := by decide +kernel
theorem dX5_beats_117 : decode cX5_beats 117 = .ok (.aload_n 1, 1) := by decide +kernel
theorem dX5_beats_118 : decode cX5_beats 118 = .ok (.iconst 1, 1) := by decide +kernel
theorem dX5_beats_119 : decode cX5_beats 119 = .ok (.iaload, 1) := by decide +kernel
theorem dX5_beats_120 : decode cX5_beats 120 = .ok (.invokevirtual 128, 3) := by decide +kernel
theorem dX5_beats_123 : decode cX5_beats 123 = .ok (.istore 4, 2) := by decide +kernel
theorem dX5_beats_125 : decode cX5_beats 125 = .ok (.aload_n 1, 1) := by decide +kernel
theorem dX5_beats_126 : decode cX5_beats 126 = .ok (.iconst 2, 1) := by decide +kernel
theorem dX5_beats_127 : decode cX5_beats 127 = .ok (.iaload, 1) := by decide +kernel
theorem dX5_beats_128 : decode cX5_beats 128 = .ok (.aload_n 0, 1) := by decide +kernel
theorem dX5_beats_129 : decode cX5_beats 129 = .ok (.getfield 16, 3) := by decide +kernel
theorem dX5_beats_132 : decode cX5_beats 132 = .ok (.iload 4, 2) := by decide +kernel
theorem dX5_beats_134 : decode cX5_beats 134 = .ok (.iaload, 1) := by decide +kernel
theorem dX5_beats_135 : decode cX5_beats 135 = .ok (.if_icmp .ge 6, 3) := by decide +kernel
theorem dX5_beats_138 : decode cX5_beats 138 = .ok (.bipush (-9), 2) := by decide +kernel
theorem dX5_beats_140 : decode cX5_beats 140 = .ok (.ireturn, 1) := by decide +kernel
theorem dX5_beats_141 : decode cX5_beats 141 = .ok (.aload_n 1, 1) := by decide +kernel
theorem dX5_beats_142 : decode cX5_beats 142 = .ok (.bipush 11, 2) := by decide +kernel
theorem dX5_beats_144 : decode cX5_beats 144 = .ok (.iload 4, 2) := by decide +kernel
theorem dX5_beats_146 : decode cX5_beats 146 = .ok (.iadd, 1) := by decide +kernel
theorem dX5_beats_147 : decode cX5_beats 147 = .ok (.aload_n 0, 1) := by decide +kernel
theorem dX5_beats_148 : decode cX5_beats 148 = .ok (.getfield 19, 3) := by decide +kernel
theorem dX5_beats_151 : decode cX5_beats 151 = .ok (.iload 4, 2) := by decide +kernel
theorem dX5_beats_153 : decode cX5_beats 153 = .ok (.iaload, 1) := by decide +kernel
theorem dX5_beats_154 : decode cX5_beats 154 = .ok (.iastore, 1) := by decide +kernel
theorem dX5_beats_155 : decode cX5_beats 155 = .ok (.aload_n 1, 1) := by decide +kernel
theorem dX5_beats_156 : decode cX5_beats 156 = .ok (.iconst 2, 1) := by decide +kernel
theorem dX5_beats_157 : decode cX5_beats 157 = .ok (.dup2, 1) := by decide +kernel
theorem dX5_beats_158 : decode cX5_beats 158 = .ok (.iaload, 1) := by decide +kernel
theorem dX5_beats_159 : decode cX5_beats 159 = .ok (.iconst 1, 1) := by decide +kernel
theorem dX5_beats_160 : decode cX5_beats 160 = .ok (.isub, 1) := by decide +kernel
theorem dX5_beats_161 : decode cX5_beats 161 = .ok (.iastore, 1) := by decide +kernel
theorem dX5_beats_162 : decode cX5_beats 162 = .ok (.iload 4, 2) := by decide +kernel
theorem dX5_beats_164 : decode cX5_beats 164 = .ok (.ireturn, 1) := by decide +kernel
theorem dX5_asNow_0 : decode cX5_asNow 0 = .ok (.iconst 0, 1) := by decide +kernel
theorem dX5_asNow_1 : decode cX5_asNow 1 = .ok (.istore_n 1, 1) := by decide +kernel
theorem dX5_asNow_2 : decode cX5_asNow 2 = .ok (.iload_n 1, 1) := by decide +kernel
theorem dX5_asNow_3 : decode cX5_asNow 3 = .ok (.bipush 19, 2) := by decide +kernel
theorem dX5_asNow_5 : decode cX5_asNow 5 = .ok (.if_icmp .ge 21, 3) := by decide +kernel
theorem dX5_asNow_8 : decode cX5_asNow 8 = .ok (.aload_n 0, 1) := by decide +kernel
theorem dX5_asNow_9 : decode cX5_asNow 9 = .ok (.getfield 25, 3) := by decide +kernel
theorem dX5_asNow_12 : decode cX5_asNow 12 = .ok (.iload_n 1, 1) := by decide +kernel
theorem dX5_asNow_13 : decode cX5_asNow 13 = .ok (.aload_n 0, 1) := by decide +kernel
theorem dX5_asNow_14 : decode cX5_asNow 14 = .ok (.getfield 22, 3) := by decide +kernel
theorem dX5_asNow_17 : decode cX5_asNow 17 = .ok (.iload_n 1, 1) := by decide +kernel
theorem dX5_asNow_18 : decode cX5_asNow 18 = .ok (.iaload, 1) := by decide +kernel
theorem dX5_asNow_19 : decode cX5_asNow 19 = .ok (.iastore, 1) := by decide +kernel
theorem dX5_asNow_20 : decode cX5_asNow 20 = .ok (.iinc 1 1, 3) := by decide +kernel
theorem dX5_asNow_23 : decode cX5_asNow 23 = .ok (.goto (-21), 3) := by decide +kernel
theorem dX5_asNow_26 : decode cX5_asNow 26 = .ok (.aload_n 0, 1) := by decide +kernel
theorem dX5_asNow_27 : decode cX5_asNow 27 = .ok (.iconst 0, 1) := by decide +kernel
theorem dX5_asNow_28 : decode cX5_asNow 28 = .ok (.putfield 132, 3) := by decide +kernel
theorem dX5_asNow_31 : decode cX5_asNow 31 = .ok (.aload_n 0, 1) := by decide +kernel
theorem dX5_asNow_32 : decode cX5_asNow 32 = .ok (.iconst 0, 1) := by decide +kernel
theorem dX5_asNow_33 : decode cX5_asNow 33 = .ok (.putfield 135, 3) := by decide +kernel
theorem dX5_asNow_36 : decode cX5_asNow 36 = .ok (.return_, 1) := by decide +kernel
theorem dX5_heardNow_0 : decode cX5_heardNow 0 = .ok (.aload_n 0, 1) := by decide +kernel
theorem dX5_heardNow_1 : decode cX5_heardNow 1 = .ok (.dup, 1) := by decide +kernel
theorem dX5_heardNow_2 : decode cX5_heardNow 2 = .ok (.getfield 132, 3) := by decide +kernel
theorem dX5_heardNow_5 : decode cX5_heardNow 5 = .ok (.iload_n 1, 1) := by decide +kernel
theorem dX5_heardNow_6 : decode cX5_heardNow 6 = .ok (.bipush (-9), 2) := by decide +kernel
theorem dX5_heardNow_8 : decode cX5_heardNow 8 = .ok (.if_icmp .ne 7, 3) := by decide +kernel
theorem dX5_heardNow_11 : decode cX5_heardNow 11 = .ok (.iconst 0, 1) := by decide +kernel
theorem dX5_heardNow_12 : decode cX5_heardNow 12 = .ok (.goto 6, 3) := by decide +kernel
theorem dX5_heardNow_15 : decode cX5_heardNow 15 = .ok (.iconst 1, 1) := by decide +kernel
theorem dX5_heardNow_16 : decode cX5_heardNow 16 = .ok (.iload_n 1, 1) := by decide +kernel
theorem dX5_heardNow_17 : decode cX5_heardNow 17 = .ok (.ishl, 1) := by decide +kernel
theorem dX5_heardNow_18 : decode cX5_heardNow 18 = .ok (.ior, 1) := by decide +kernel
theorem dX5_heardNow_19 : decode cX5_heardNow 19 = .ok (.putfield 132, 3) := by decide +kernel
theorem dX5_heardNow_22 : decode cX5_heardNow 22 = .ok (.aload_n 0, 1) := by decide +kernel
theorem dX5_heardNow_23 : decode cX5_heardNow 23 = .ok (.aload_n 0, 1) := by decide +kernel
theorem dX5_heardNow_24 : decode cX5_heardNow 24 = .ok (.getfield 25, 3) := by decide +kernel
theorem dX5_heardNow_27 : decode cX5_heardNow 27 = .ok (.invokevirtual 138, 3) := by decide +kernel
theorem dX5_heardNow_30 : decode cX5_heardNow 30 = .ok (.istore_n 2, 1) := by decide +kernel
theorem dX5_heardNow_31 : decode cX5_heardNow 31 = .ok (.aload_n 0, 1) := by decide +kernel
theorem dX5_heardNow_32 : decode cX5_heardNow 32 = .ok (.iload_n 2, 1) := by decide +kernel
theorem dX5_heardNow_33 : decode cX5_heardNow 33 = .ok (.aload_n 0, 1) := by decide +kernel
theorem dX5_heardNow_34 : decode cX5_heardNow 34 = .ok (.getfield 135, 3) := by decide +kernel
theorem dX5_heardNow_37 : decode cX5_heardNow 37 = .ok (.if_icmp .le 7, 3) := by decide +kernel
theorem dX5_heardNow_40 : decode cX5_heardNow 40 = .ok (.iload_n 2, 1) := by decide +kernel
theorem dX5_heardNow_41 : decode cX5_heardNow 41 = .ok (.goto 7, 3) := by decide +kernel
theorem dX5_heardNow_44 : decode cX5_heardNow 44 = .ok (.aload_n 0, 1) := by decide +kernel
theorem dX5_heardNow_45 : decode cX5_heardNow 45 = .ok (.getfield 135, 3) := by decide +kernel
theorem dX5_heardNow_48 : decode cX5_heardNow 48 = .ok (.putfield 135, 3) := by decide +kernel
theorem dX5_heardNow_51 : decode cX5_heardNow 51 = .ok (.return_, 1) := by decide +kernel
theorem dX5_calmBeats_0 : decode cX5_calmBeats 0 = .ok (.iconst 0, 1) := by decide +kernel
theorem dX5_calmBeats_1 : decode cX5_calmBeats 1 = .ok (.istore_n 2, 1) := by decide +kernel
theorem dX5_calmBeats_2 : decode cX5_calmBeats 2 = .ok (.iload_n 2, 1) := by decide +kernel
theorem dX5_calmBeats_3 : decode cX5_calmBeats 3 = .ok (.iload_n 1, 1) := by decide +kernel
theorem dX5_calmBeats_4 : decode cX5_calmBeats 4 = .ok (.if_icmp .ge 30, 3) := by decide +kernel
theorem dX5_calmBeats_7 : decode cX5_calmBeats 7 = .ok (.aload_n 0, 1) := by decide +kernel
theorem dX5_calmBeats_8 : decode cX5_calmBeats 8 = .ok (.getfield 115, 3) := by decide +kernel
theorem dX5_calmBeats_11 : decode cX5_calmBeats 11 = .ok (.ifCond .le 23, 3) := by decide +kernel
theorem dX5_calmBeats_14 : decode cX5_calmBeats 14 = .ok (.aload_n 0, 1) := by decide +kernel
theorem dX5_calmBeats_15 : decode cX5_calmBeats 15 = .ok (.aload_n 0, 1) := by decide +kernel
theorem dX5_calmBeats_16 : decode cX5_calmBeats 16 = .ok (.aload_n 0, 1) := by decide +kernel
theorem dX5_calmBeats_17 : decode cX5_calmBeats 17 = .ok (.getfield 25, 3) := by decide +kernel
theorem dX5_calmBeats_20 : decode cX5_calmBeats 20 = .ok (.iconst 0, 1) := by decide +kernel
theorem dX5_calmBeats_21 : decode cX5_calmBeats 21 = .ok (.iconst 0, 1) := by decide +kernel
theorem dX5_calmBeats_22 : decode cX5_calmBeats 22 = .ok (.invokevirtual 142, 3) := by decide +kernel
theorem dX5_calmBeats_25 : decode cX5_calmBeats 25 = .ok (.invokevirtual 146, 3) := by decide +kernel
theorem dX5_calmBeats_28 : decode cX5_calmBeats 28 = .ok (.iinc 2 1, 3) := by decide +kernel
theorem dX5_calmBeats_31 : decode cX5_calmBeats 31 = .ok (.goto (-29), 3) := by decide +kernel
theorem dX5_calmBeats_34 : decode cX5_calmBeats 34 = .ok (.return_, 1) := by decide +kernel
theorem dX5_gustAndCalm_0 : decode cX5_gustAndCalm 0 = .ok (.aload_n 0, 1) := by decide +kernel
theorem dX5_gustAndCalm_1 : decode cX5_gustAndCalm 1 = .ok (.invokevirtual 149, 3) := by decide +kernel
theorem dX5_gustAndCalm_4 : decode cX5_gustAndCalm 4 = .ok (.aload_n 0, 1) := by decide +kernel
theorem dX5_gustAndCalm_5 : decode cX5_gustAndCalm 5 = .ok (.aload_n 0, 1) := by decide +kernel
theorem dX5_gustAndCalm_6 : decode cX5_gustAndCalm 6 = .ok (.aload_n 0, 1) := by decide +kernel
theorem dX5_gustAndCalm_7 : decode cX5_gustAndCalm 7 = .ok (.getfield 25, 3) := by decide +kernel
theorem dX5_gustAndCalm_10 : decode cX5_gustAndCalm 10 = .ok (.iload_n 1, 1) := by decide +kernel
theorem dX5_gustAndCalm_11 : decode cX5_gustAndCalm 11 = .ok (.iload_n 2, 1) := by decide +kernel
theorem dX5_gustAndCalm_12 : decode cX5_gustAndCalm 12 = .ok (.invokevirtual 142, 3) := by decide +kernel
theorem dX5_gustAndCalm_15 : decode cX5_gustAndCalm 15 = .ok (.invokevirtual 146, 3) := by decide +kernel
theorem dX5_gustAndCalm_18 : decode cX5_gustAndCalm 18 = .ok (.aload_n 0, 1) := by decide +kernel
theorem dX5_gustAndCalm_19 : decode cX5_gustAndCalm 19 = .ok (.iload_n 3, 1) := by decide +kernel
theorem dX5_gustAndCalm_20 : decode cX5_gustAndCalm 20 = .ok (.invokevirtual 152, 3) := by decide +kernel
theorem dX5_gustAndCalm_23 : decode cX5_gustAndCalm 23 = .ok (.return_, 1) := by decide +kernel
theorem dX5_stillIn_0 : decode cX5_stillIn 0 = .ok (.aload_n 0, 1) := by decide +kernel
theorem dX5_stillIn_1 : decode cX5_stillIn 1 = .ok (.invokevirtual 149, 3) := by decide +kernel
theorem dX5_stillIn_4 : decode cX5_stillIn 4 = .ok (.iconst 0, 1) := by decide +kernel
theorem dX5_stillIn_5 : decode cX5_stillIn 5 = .ok (.istore_n 1, 1) := by decide +kernel
theorem dX5_stillIn_6 : decode cX5_stillIn 6 = .ok (.iload_n 1, 1) := by decide +kernel
theorem dX5_stillIn_7 : decode cX5_stillIn 7 = .ok (.bipush 60, 2) := by decide +kernel
theorem dX5_stillIn_9 : decode cX5_stillIn 9 = .ok (.if_icmp .gt 36, 3) := by decide +kernel
theorem dX5_stillIn_12 : decode cX5_stillIn 12 = .ok (.aload_n 0, 1) := by decide +kernel
theorem dX5_stillIn_13 : decode cX5_stillIn 13 = .ok (.aload_n 0, 1) := by decide +kernel
theorem dX5_stillIn_14 : decode cX5_stillIn 14 = .ok (.getfield 25, 3) := by decide +kernel
theorem dX5_stillIn_17 : decode cX5_stillIn 17 = .ok (.invokevirtual 155, 3) := by decide +kernel
theorem dX5_stillIn_20 : decode cX5_stillIn 20 = .ok (.ifCond .ne 14, 3) := by decide +kernel
theorem dX5_stillIn_23 : decode cX5_stillIn 23 = .ok (.aload_n 0, 1) := by decide +kernel
theorem dX5_stillIn_24 : decode cX5_stillIn 24 = .ok (.getfield 25, 3) := by decide +kernel
theorem dX5_stillIn_27 : decode cX5_stillIn 27 = .ok (.iconst 2, 1) := by decide +kernel
theorem dX5_stillIn_28 : decode cX5_stillIn 28 = .ok (.iaload, 1) := by decide +kernel
theorem dX5_stillIn_29 : decode cX5_stillIn 29 = .ok (.ifCond .ne 5, 3) := by decide +kernel
theorem dX5_stillIn_32 : decode cX5_stillIn 32 = .ok (.iload_n 1, 1) := by decide +kernel
theorem dX5_stillIn_33 : decode cX5_stillIn 33 = .ok (.ireturn, 1) := by decide +kernel
theorem dX5_stillIn_34 : decode cX5_stillIn 34 = .ok (.aload_n 0, 1) := by decide +kernel
theorem dX5_stillIn_35 : decode cX5_stillIn 35 = .ok (.iconst 1, 1) := by decide +kernel
theorem dX5_stillIn_36 : decode cX5_stillIn 36 = .ok (.invokevirtual 152, 3) := by decide +kernel
theorem dX5_stillIn_39 : decode cX5_stillIn 39 = .ok (.iinc 1 1, 3) := by decide +kernel
theorem dX5_stillIn_42 : decode cX5_stillIn 42 = .ok (.goto (-36), 3) := by decide +kernel
theorem dX5_stillIn_45 : decode cX5_stillIn 45 = .ok (.bipush (-9), 2) := by decide +kernel
theorem dX5_stillIn_47 : decode cX5_stillIn 47 = .ok (.ireturn, 1) := by decide +kernel
theorem dX5_rod_0 : decode cX5_rod 0 = .ok (.aload_n 0, 1) := by decide +kernel
theorem dX5_rod_1 : decode cX5_rod 1 = .ok (.iconst 0, 1) := by decide +kernel
theorem dX5_rod_2 : decode cX5_rod 2 = .ok (.putfield 54, 3) := by decide +kernel
theorem dX5_rod_5 : decode cX5_rod 5 = .ok (.aload_n 0, 1) := by decide +kernel
theorem dX5_rod_6 : decode cX5_rod 6 = .ok (.iload_n 1, 1) := by decide +kernel
theorem dX5_rod_7 : decode cX5_rod 7 = .ok (.invokevirtual 158, 3) := by decide +kernel
theorem dX5_rod_10 : decode cX5_rod 10 = .ok (.ifCond .eq 12, 3) := by decide +kernel
theorem dX5_rod_13 : decode cX5_rod 13 = .ok (.iload_n 2, 1) := by decide +kernel
theorem dX5_rod_14 : decode cX5_rod 14 = .ok (.iconst 0, 1) := by decide +kernel
theorem dX5_rod_15 : decode cX5_rod 15 = .ok (.iconst 4, 1) := by decide +kernel
theorem dX5_rod_16 : decode cX5_rod 16 = .ok (.invokestatic 57, 3) := by decide +kernel
theorem dX5_rod_19 : decode cX5_rod 19 = .ok (.ifCond .ne 5, 3) := by decide +kernel
theorem dX5_rod_22 : decode cX5_rod 22 = .ok (.iconst (-1), 1) := by decide +kernel
theorem dX5_rod_23 : decode cX5_rod 23 = .ok (.ireturn, 1) := by decide +kernel
theorem dX5_rod_24 : decode cX5_rod 24 = .ok (.iload_n 2, 1) := by decide +kernel
theorem dX5_rod_25 : decode cX5_rod 25 = .ok (.iconst 3, 1) := by decide +kernel
theorem dX5_rod_26 : decode cX5_rod 26 = .ok (.if_icmp .ge 37, 3) := by decide +kernel
theorem dX5_rod_29 : decode cX5_rod 29 = .ok (.iload_n 2, 1) := by decide +kernel
theorem dX5_rod_30 : decode cX5_rod 30 = .ok (.ifCond .ne 12, 3) := by decide +kernel
theorem dX5_rod_33 : decode cX5_rod 33 = .ok (.aload_n 0, 1) := by decide +kernel
theorem dX5_rod_34 : decode cX5_rod 34 = .ok (.getfield 13, 3) := by decide +kernel
theorem dX5_rod_37 : decode cX5_rod 37 = .ok (.iload_n 1, 1) := by decide +kernel
theorem dX5_rod_38 : decode cX5_rod 38 = .ok (.iaload, 1) := by decide +kernel
theorem dX5_rod_39 : decode cX5_rod 39 = .ok (.goto 23, 3) := by decide +kernel
theorem dX5_rod_42 : decode cX5_rod 42 = .ok (.iload_n 2, 1) := by decide +kernel
theorem dX5_rod_43 : decode cX5_rod 43 = .ok (.iconst 1, 1) := by decide +kernel
theorem dX5_rod_44 : decode cX5_rod 44 = .ok (.if_icmp .ne 12, 3) := by decide +kernel
theorem dX5_rod_47 : decode cX5_rod 47 = .ok (.aload_n 0, 1) := by decide +kernel
theorem dX5_rod_48 : decode cX5_rod 48 = .ok (.getfield 16, 3) := by decide +kernel
theorem dX5_rod_51 : decode cX5_rod 51 = .ok (.iload_n 1, 1) := by decide +kernel
theorem dX5_rod_52 : decode cX5_rod 52 = .ok (.iaload, 1) := by decide +kernel
theorem dX5_rod_53 : decode cX5_rod 53 = .ok (.goto 9, 3) := by decide +kernel
theorem dX5_rod_56 : decode cX5_rod 56 = .ok (.aload_n 0, 1) := by decide +kernel
theorem dX5_rod_57 : decode cX5_rod 57 = .ok (.getfield 19, 3) := by decide +kernel
theorem dX5_rod_60 : decode cX5_rod 60 = .ok (.iload_n 1, 1) := by decide +kernel
theorem dX5_rod_61 : decode cX5_rod 61 = .ok (.iaload, 1) := by decide +kernel
theorem dX5_rod_62 : decode cX5_rod 62 = .ok (.ireturn, 1) := by decide +kernel
theorem dX5_rod_63 : decode cX5_rod 63 = .ok (.iload_n 2, 1) := by decide +kernel
theorem dX5_rod_64 : decode cX5_rod 64 = .ok (.iconst 3, 1) := by decide +kernel
theorem dX5_rod_65 : decode cX5_rod 65 = .ok (.if_icmp .ne 14, 3) := by decide +kernel
theorem dX5_rod_68 : decode cX5_rod 68 = .ok (.aload_n 0, 1) := by decide +kernel
theorem dX5_rod_69 : decode cX5_rod 69 = .ok (.getfield 22, 3) := by decide +kernel
theorem dX5_rod_72 : decode cX5_rod 72 = .ok (.iconst 3, 1) := by decide +kernel
theorem dX5_rod_73 : decode cX5_rod 73 = .ok (.iload_n 1, 1) := by decide +kernel
theorem dX5_rod_74 : decode cX5_rod 74 = .ok (.iadd, 1) := by decide +kernel
theorem dX5_rod_75 : decode cX5_rod 75 = .ok (.iaload, 1) := by decide +kernel
theorem dX5_rod_76 : decode cX5_rod 76 = .ok (.goto 12, 3) := by decide +kernel
theorem dX5_rod_79 : decode cX5_rod 79 = .ok (.aload_n 0, 1) := by decide +kernel
theorem dX5_rod_80 : decode cX5_rod 80 = .ok (.getfield 22, 3) := by decide +kernel
theorem dX5_rod_83 : decode cX5_rod 83 = .ok (.bipush 11, 2) := by decide +kernel
theorem dX5_rod_85 : decode cX5_rod 85 = .ok (.iload_n 1, 1) := by decide +kernel
theorem dX5_rod_86 : decode cX5_rod 86 = .ok (.iadd, 1) := by decide +kernel
theorem dX5_rod_87 : decode cX5_rod 87 = .ok (.iaload, 1) := by decide +kernel
theorem dX5_rod_88 : decode cX5_rod 88 = .ok (.ireturn, 1) := by decide +kernel
theorem dX5_side_0 : decode cX5_side 0 = .ok (.aload_n 0, 1) := by decide +kernel
theorem dX5_side_1 : decode cX5_side 1 = .ok (.iconst 0, 1) := by decide +kernel
theorem dX5_side_2 : decode cX5_side 2 = .ok (.putfield 54, 3) := by decide +kernel
theorem dX5_side_5 : decode cX5_side 5 = .ok (.aload_n 0, 1) := by decide +kernel
theorem dX5_side_6 : decode cX5_side 6 = .ok (.iload_n 1, 1) := by decide +kernel
theorem dX5_side_7 : decode cX5_side 7 = .ok (.invokevirtual 158, 3) := by decide +kernel
theorem dX5_side_10 : decode cX5_side 10 = .ok (.ifCond .eq 15, 3) := by decide +kernel
theorem dX5_side_13 : decode cX5_side 13 = .ok (.aload_n 0, 1) := by decide +kernel
theorem dX5_side_14 : decode cX5_side 14 = .ok (.aload_n 0, 1) := by decide +kernel
theorem dX5_side_15 : decode cX5_side 15 = .ok (.getfield 22, 3) := by decide +kernel
theorem dX5_side_18 : decode cX5_side 18 = .ok (.iload_n 1, 1) := by decide +kernel
theorem dX5_side_19 : decode cX5_side 19 = .ok (.invokevirtual 128, 3) := by decide +kernel
theorem dX5_side_22 : decode cX5_side 22 = .ok (.goto 4, 3) := by decide +kernel
theorem dX5_side_25 : decode cX5_side 25 = .ok (.iconst (-1), 1) := by decide +kernel
theorem dX5_side_26 : decode cX5_side 26 = .ok (.ireturn, 1) := by decide +kernel
theorem dX5_now_0 : decode cX5_now 0 = .ok (.aload_n 0, 1) := by decide +kernel
theorem dX5_now_1 : decode cX5_now 1 = .ok (.iconst 0, 1) := by decide +kernel
theorem dX5_now_2 : decode cX5_now 2 = .ok (.putfield 54, 3) := by decide +kernel
theorem dX5_now_5 : decode cX5_now 5 = .ok (.iload_n 1, 1) := by decide +kernel
theorem dX5_now_6 : decode cX5_now 6 = .ok (.iconst 0, 1) := by decide +kernel
theorem dX5_now_7 : decode cX5_now 7 = .ok (.bipush 6, 2) := by decide +kernel
theorem dX5_now_9 : decode cX5_now 9 = .ok (.invokestatic 57, 3) := by decide +kernel
theorem dX5_now_12 : decode cX5_now 12 = .ok (.ifCond .ne 5, 3) := by decide +kernel
theorem dX5_now_15 : decode cX5_now 15 = .ok (.iconst (-1), 1) := by decide +kernel
theorem dX5_now_16 : decode cX5_now 16 = .ok (.ireturn, 1) := by decide +kernel
theorem dX5_now_17 : decode cX5_now 17 = .ok (.iload_n 1, 1) := by decide +kernel
theorem dX5_now_18 : decode cX5_now 18 = .ok (.iconst 3, 1) := by decide +kernel
theorem dX5_now_19 : decode cX5_now 19 = .ok (.if_icmp .ge 37, 3) := by decide +kernel
theorem dX5_now_22 : decode cX5_now 22 = .ok (.iload_n 1, 1) := by decide +kernel
theorem dX5_now_23 : decode cX5_now 23 = .ok (.ifCond .ne 12, 3) := by decide +kernel
theorem dX5_now_26 : decode cX5_now 26 = .ok (.aload_n 0, 1) := by decide +kernel
theorem dX5_now_27 : decode cX5_now 27 = .ok (.getfield 22, 3) := by decide +kernel
theorem dX5_now_30 : decode cX5_now 30 = .ok (.iconst 0, 1) := by decide +kernel
theorem dX5_now_31 : decode cX5_now 31 = .ok (.iaload, 1) := by decide +kernel
theorem dX5_now_32 : decode cX5_now 32 = .ok (.goto 23, 3) := by decide +kernel
theorem dX5_now_35 : decode cX5_now 35 = .ok (.iload_n 1, 1) := by decide +kernel
theorem dX5_now_36 : decode cX5_now 36 = .ok (.iconst 1, 1) := by decide +kernel
theorem dX5_now_37 : decode cX5_now 37 = .ok (.if_icmp .ne 12, 3) := by decide +kernel
theorem dX5_now_40 : decode cX5_now 40 = .ok (.aload_n 0, 1) := by decide +kernel
theorem dX5_now_41 : decode cX5_now 41 = .ok (.getfield 22, 3) := by decide +kernel
theorem dX5_now_44 : decode cX5_now 44 = .ok (.iconst 1, 1) := by decide +kernel
theorem dX5_now_45 : decode cX5_now 45 = .ok (.iaload, 1) := by decide +kernel
theorem dX5_now_46 : decode cX5_now 46 = .ok (.goto 9, 3) := by decide +kernel
theorem dX5_now_49 : decode cX5_now 49 = .ok (.aload_n 0, 1) := by decide +kernel
theorem dX5_now_50 : decode cX5_now 50 = .ok (.getfield 22, 3) := by decide +kernel
theorem dX5_now_53 : decode cX5_now 53 = .ok (.iconst 2, 1) := by decide +kernel
theorem dX5_now_54 : decode cX5_now 54 = .ok (.iaload, 1) := by decide +kernel
theorem dX5_now_55 : decode cX5_now 55 = .ok (.ireturn, 1) := by decide +kernel
theorem dX5_now_56 : decode cX5_now 56 = .ok (.iload_n 1, 1) := by decide +kernel
theorem dX5_now_57 : decode cX5_now 57 = .ok (.iconst 3, 1) := by decide +kernel
theorem dX5_now_58 : decode cX5_now 58 = .ok (.if_icmp .ne 14, 3) := by decide +kernel
theorem dX5_now_61 : decode cX5_now 61 = .ok (.aload_n 0, 1) := by decide +kernel
theorem dX5_now_62 : decode cX5_now 62 = .ok (.aload_n 0, 1) := by decide +kernel
theorem dX5_now_63 : decode cX5_now 63 = .ok (.getfield 22, 3) := by decide +kernel
theorem dX5_now_66 : decode cX5_now 66 = .ok (.invokevirtual 155, 3) := by decide +kernel
theorem dX5_now_69 : decode cX5_now 69 = .ok (.goto 35, 3) := by decide +kernel
theorem dX5_now_72 : decode cX5_now 72 = .ok (.iload_n 1, 1) := by decide +kernel
theorem dX5_now_73 : decode cX5_now 73 = .ok (.iconst 4, 1) := by decide +kernel
theorem dX5_now_74 : decode cX5_now 74 = .ok (.if_icmp .ne 14, 3) := by decide +kernel
theorem dX5_now_77 : decode cX5_now 77 = .ok (.aload_n 0, 1) := by decide +kernel
theorem dX5_now_78 : decode cX5_now 78 = .ok (.aload_n 0, 1) := by decide +kernel
theorem dX5_now_79 : decode cX5_now 79 = .ok (.getfield 22, 3) := by decide +kernel
theorem dX5_now_82 : decode cX5_now 82 = .ok (.invokevirtual 138, 3) := by decide +kernel
theorem dX5_now_85 : decode cX5_now 85 = .ok (.goto 19, 3) := by decide +kernel
theorem dX5_now_88 : decode cX5_now 88 = .ok (.iload_n 1, 1) := by decide +kernel
theorem dX5_now_89 : decode cX5_now 89 = .ok (.iconst 5, 1) := by decide +kernel
theorem dX5_now_90 : decode cX5_now 90 = .ok (.if_icmp .ne 10, 3) := by decide +kernel
theorem dX5_now_93 : decode cX5_now 93 = .ok (.aload_n 0, 1) := by decide +kernel
theorem dX5_now_94 : decode cX5_now 94 = .ok (.invokevirtual 162, 3) := by decide +kernel
theorem dX5_now_97 : decode cX5_now 97 = .ok (.goto 7, 3) := by decide +kernel
theorem dX5_now_100 : decode cX5_now 100 = .ok (.aload_n 0, 1) := by decide +kernel
theorem dX5_now_101 : decode cX5_now 101 = .ok (.getfield 121, 3) := by decide +kernel
theorem dX5_now_104 : decode cX5_now 104 = .ok (.ireturn, 1) := by decide +kernel
theorem dX5_notes_0 : decode cX5_notes 0 = .ok (.aload_n 0, 1) := by decide +kernel
theorem dX5_notes_1 : decode cX5_notes 1 = .ok (.getfield 121, 3) := by decide +kernel
theorem dX5_notes_4 : decode cX5_notes 4 = .ok (.bipush 10, 2) := by decide +kernel
theorem dX5_notes_6 : decode cX5_notes 6 = .ok (.if_icmp .ne 39, 3) := by decide +kernel
theorem dX5_notes_9 : decode cX5_notes 9 = .ok (.iconst 0, 1) := by decide +kernel
theorem dX5_notes_10 : decode cX5_notes 10 = .ok (.istore_n 1, 1) := by decide +kernel
theorem dX5_notes_11 : decode cX5_notes 11 = .ok (.iload_n 1, 1) := by decide +kernel
theorem dX5_notes_12 : decode cX5_notes 12 = .ok (.sipush 171, 3) := by decide +kernel
theorem dX5_notes_15 : decode cX5_notes 15 = .ok (.if_icmp .ge 24, 3) := by decide +kernel
theorem dX5_notes_18 : decode cX5_notes 18 = .ok (.aload_n 0, 1) := by decide +kernel
theorem dX5_notes_19 : decode cX5_notes 19 = .ok (.getfield 35, 3) := by decide +kernel
theorem dX5_notes_22 : decode cX5_notes 22 = .ok (.iload_n 1, 1) := by decide +kernel
theorem dX5_notes_23 : decode cX5_notes 23 = .ok (.aload_n 0, 1) := by decide +kernel
theorem dX5_notes_24 : decode cX5_notes 24 = .ok (.getfield 35, 3) := by decide +kernel
theorem dX5_notes_27 : decode cX5_notes 27 = .ok (.iload_n 1, 1) := by decide +kernel
theorem dX5_notes_28 : decode cX5_notes 28 = .ok (.bipush 19, 2) := by decide +kernel
theorem dX5_notes_30 : decode cX5_notes 30 = .ok (.iadd, 1) := by decide +kernel
theorem dX5_notes_31 : decode cX5_notes 31 = .ok (.iaload, 1) := by decide +kernel
theorem dX5_notes_32 : decode cX5_notes 32 = .ok (.iastore, 1) := by decide +kernel
theorem dX5_notes_33 : decode cX5_notes 33 = .ok (.iinc 1 1, 3) := by decide +kernel
theorem dX5_notes_36 : decode cX5_notes 36 = .ok (.goto (-25), 3) := by decide +kernel
theorem dX5_notes_39 : decode cX5_notes 39 = .ok (.aload_n 0, 1) := by decide +kernel
theorem dX5_notes_40 : decode cX5_notes 40 = .ok (.bipush 9, 2) := by decide +kernel
theorem dX5_notes_42 : decode cX5_notes 42 = .ok (.putfield 121, 3) := by decide +kernel
theorem dX5_notes_45 : decode cX5_notes 45 = .ok (.iconst 0, 1) := by decide +kernel
theorem dX5_notes_46 : decode cX5_notes 46 = .ok (.istore_n 1, 1) := by decide +kernel
theorem dX5_notes_47 : decode cX5_notes 47 = .ok (.iload_n 1, 1) := by decide +kernel
theorem dX5_notes_48 : decode cX5_notes 48 = .ok (.bipush 19, 2) := by decide +kernel
theorem dX5_notes_50 : decode cX5_notes 50 = .ok (.if_icmp .ge 29, 3) := by decide +kernel
theorem dX5_notes_53 : decode cX5_notes 53 = .ok (.aload_n 0, 1) := by decide +kernel
theorem dX5_notes_54 : decode cX5_notes 54 = .ok (.getfield 35, 3) := by decide +kernel
theorem dX5_notes_57 : decode cX5_notes 57 = .ok (.bipush 19, 2) := by decide +kernel
theorem dX5_notes_59 : decode cX5_notes 59 = .ok (.aload_n 0, 1) := by decide +kernel
theorem dX5_notes_60 : decode cX5_notes 60 = .ok (.getfield 121, 3) := by decide +kernel
theorem dX5_notes_63 : decode cX5_notes 63 = .ok (.imul, 1) := by decide +kernel
theorem dX5_notes_64 : decode cX5_notes 64 = .ok (.iload_n 1, 1) := by decide +kernel
theorem dX5_notes_65 : decode cX5_notes 65 = .ok (.iadd, 1) := by decide +kernel
theorem dX5_notes_66 : decode cX5_notes 66 = .ok (.aload_n 0, 1) := by decide +kernel
theorem dX5_notes_67 : decode cX5_notes 67 = .ok (.getfield 22, 3) := by decide +kernel
theorem dX5_notes_70 : decode cX5_notes 70 = .ok (.iload_n 1, 1) := by decide +kernel
theorem dX5_notes_71 : decode cX5_notes 71 = .ok (.iaload, 1) := by decide +kernel
theorem dX5_notes_72 : decode cX5_notes 72 = .ok (.iastore, 1) := by decide +kernel
theorem dX5_notes_73 : decode cX5_notes 73 = .ok (.iinc 1 1, 3) := by decide +kernel
theorem dX5_notes_76 : decode cX5_notes 76 = .ok (.goto (-29), 3) := by decide +kernel
theorem dX5_notes_79 : decode cX5_notes 79 = .ok (.aload_n 0, 1) := by decide +kernel
theorem dX5_notes_80 : decode cX5_notes 80 = .ok (.dup, 1) := by decide +kernel
theorem dX5_notes_81 : decode cX5_notes 81 = .ok (.getfield 121, 3) := by decide +kernel
theorem dX5_notes_84 : decode cX5_notes 84 = .ok (.iconst 1, 1) := by decide +kernel
theorem dX5_notes_85 : decode cX5_notes 85 = .ok (.iadd, 1) := by decide +kernel
theorem dX5_notes_86 : decode cX5_notes 86 = .ok (.putfield 121, 3) := by decide +kernel
theorem dX5_notes_89 : decode cX5_notes 89 = .ok (.return_, 1) := by decide +kernel
theorem dX5_blows_0 : decode cX5_blows 0 = .ok (.aload_n 0, 1) := by decide +kernel
theorem dX5_blows_1 : decode cX5_blows 1 = .ok (.iconst 0, 1) := by decide +kernel
theorem dX5_blows_2 : decode cX5_blows 2 = .ok (.putfield 54, 3) := by decide +kernel
theorem dX5_blows_5 : decode cX5_blows 5 = .ok (.aload_n 0, 1) := by decide +kernel
theorem dX5_blows_6 : decode cX5_blows 6 = .ok (.iload_n 1, 1) := by decide +kernel
theorem dX5_blows_7 : decode cX5_blows 7 = .ok (.invokevirtual 158, 3) := by decide +kernel
theorem dX5_blows_10 : decode cX5_blows 10 = .ok (.ifCond .eq 13, 3) := by decide +kernel
theorem dX5_blows_13 : decode cX5_blows 13 = .ok (.iload_n 2, 1) := by decide +kernel
theorem dX5_blows_14 : decode cX5_blows 14 = .ok (.iconst 1, 1) := by decide +kernel
theorem dX5_blows_15 : decode cX5_blows 15 = .ok (.bipush 9, 2) := by decide +kernel
theorem dX5_blows_17 : decode cX5_blows 17 = .ok (.invokestatic 57, 3) := by decide +kernel
theorem dX5_blows_20 : decode cX5_blows 20 = .ok (.ifCond .ne 5, 3) := by decide +kernel
theorem dX5_blows_23 : decode cX5_blows 23 = .ok (.iconst (-1), 1) := by decide +kernel
theorem dX5_blows_24 : decode cX5_blows 24 = .ok (.ireturn, 1) := by decide +kernel
theorem dX5_blows_25 : decode cX5_blows 25 = .ok (.aload_n 0, 1) := by decide +kernel
theorem dX5_blows_26 : decode cX5_blows 26 = .ok (.getfield 22, 3) := by decide +kernel
theorem dX5_blows_29 : decode cX5_blows 29 = .ok (.iconst 0, 1) := by decide +kernel
theorem dX5_blows_30 : decode cX5_blows 30 = .ok (.iaload, 1) := by decide +kernel
theorem dX5_blows_31 : decode cX5_blows 31 = .ok (.sipush 999, 3) := by decide +kernel
theorem dX5_blows_34 : decode cX5_blows 34 = .ok (.if_icmp .ne 6, 3) := by decide +kernel
theorem dX5_blows_37 : decode cX5_blows 37 = .ok (.bipush (-2), 2) := by decide +kernel
theorem dX5_blows_39 : decode cX5_blows 39 = .ok (.ireturn, 1) := by decide +kernel
theorem dX5_blows_40 : decode cX5_blows 40 = .ok (.aload_n 0, 1) := by decide +kernel
theorem dX5_blows_41 : decode cX5_blows 41 = .ok (.invokevirtual 166, 3) := by decide +kernel
theorem dX5_blows_44 : decode cX5_blows 44 = .ok (.aload_n 0, 1) := by decide +kernel
theorem dX5_blows_45 : decode cX5_blows 45 = .ok (.aload_n 0, 1) := by decide +kernel
theorem dX5_blows_46 : decode cX5_blows 46 = .ok (.getfield 22, 3) := by decide +kernel
theorem dX5_blows_49 : decode cX5_blows 49 = .ok (.iload_n 1, 1) := by decide +kernel
theorem dX5_blows_50 : decode cX5_blows 50 = .ok (.iload_n 2, 1) := by decide +kernel
theorem dX5_blows_51 : decode cX5_blows 51 = .ok (.invokevirtual 142, 3) := by decide +kernel
theorem dX5_blows_54 : decode cX5_blows 54 = .ok (.ireturn, 1) := by decide +kernel
theorem dX5_calms_0 : decode cX5_calms 0 = .ok (.aload_n 0, 1) := by decide +kernel
theorem dX5_calms_1 : decode cX5_calms 1 = .ok (.iconst 0, 1) := by decide +kernel
theorem dX5_calms_2 : decode cX5_calms 2 = .ok (.putfield 54, 3) := by decide +kernel
theorem dX5_calms_5 : decode cX5_calms 5 = .ok (.aload_n 0, 1) := by decide +kernel
theorem dX5_calms_6 : decode cX5_calms 6 = .ok (.getfield 115, 3) := by decide +kernel
theorem dX5_calms_9 : decode cX5_calms 9 = .ok (.ifCond .eq 15, 3) := by decide +kernel
theorem dX5_calms_12 : decode cX5_calms 12 = .ok (.aload_n 0, 1) := by decide +kernel
theorem dX5_calms_13 : decode cX5_calms 13 = .ok (.getfield 22, 3) := by decide +kernel
theorem dX5_calms_16 : decode cX5_calms 16 = .ok (.iconst 0, 1) := by decide +kernel
theorem dX5_calms_17 : decode cX5_calms 17 = .ok (.iaload, 1) := by decide +kernel
theorem dX5_calms_18 : decode cX5_calms 18 = .ok (.sipush 999, 3) := by decide +kernel
theorem dX5_calms_21 : decode cX5_calms 21 = .ok (.if_icmp .ne 6, 3) := by decide +kernel
theorem dX5_calms_24 : decode cX5_calms 24 = .ok (.bipush (-2), 2) := by decide +kernel
theorem dX5_calms_26 : decode cX5_calms 26 = .ok (.ireturn, 1) := by decide +kernel
theorem dX5_calms_27 : decode cX5_calms 27 = .ok (.aload_n 0, 1) := by decide +kernel
theorem dX5_calms_28 : decode cX5_calms 28 = .ok (.invokevirtual 166, 3) := by decide +kernel
theorem dX5_calms_31 : decode cX5_calms 31 = .ok (.aload_n 0, 1) := by decide +kernel
theorem dX5_calms_32 : decode cX5_calms 32 = .ok (.aload_n 0, 1) := by decide +kernel
theorem dX5_calms_33 : decode cX5_calms 33 = .ok (.getfield 22, 3) := by decide +kernel
theorem dX5_calms_36 : decode cX5_calms 36 = .ok (.iconst 0, 1) := by decide +kernel
theorem dX5_calms_37 : decode cX5_calms 37 = .ok (.iconst 0, 1) := by decide +kernel
theorem dX5_calms_38 : decode cX5_calms 38 = .ok (.invokevirtual 142, 3) := by decide +kernel
theorem dX5_calms_41 : decode cX5_calms 41 = .ok (.ireturn, 1) := by decide +kernel
theorem dX5_trades_0 : decode cX5_trades 0 = .ok (.aload_n 1, 1) := by decide +kernel
theorem dX5_trades_1 : decode cX5_trades 1 = .ok (.iconst 3, 1) := by decide +kernel
theorem dX5_trades_2 : decode cX5_trades 2 = .ok (.iload_n 2, 1) := by decide +kernel
theorem dX5_trades_3 : decode cX5_trades 3 = .ok (.iadd, 1) := by decide +kernel
theorem dX5_trades_4 : decode cX5_trades 4 = .ok (.iaload, 1) := by decide +kernel
theorem dX5_trades_5 : decode cX5_trades 5 = .ok (.istore 4, 2) := by decide +kernel
theorem dX5_trades_7 : decode cX5_trades 7 = .ok (.aload_n 1, 1) := by decide +kernel
theorem dX5_trades_8 : decode cX5_trades 8 = .ok (.iconst 3, 1) := by decide +kernel
theorem dX5_trades_9 : decode cX5_trades 9 = .ok (.iload_n 2, 1) := by decide +kernel
theorem dX5_trades_10 : decode cX5_trades 10 = .ok (.iadd, 1) := by decide +kernel
theorem dX5_trades_11 : decode cX5_trades 11 = .ok (.aload_n 1, 1) := by decide +kernel
theorem dX5_trades_12 : decode cX5_trades 12 = .ok (.iconst 3, 1) := by decide +kernel
theorem dX5_trades_13 : decode cX5_trades 13 = .ok (.iload_n 3, 1) := by decide +kernel
theorem dX5_trades_14 : decode cX5_trades 14 = .ok (.iadd, 1) := by decide +kernel
theorem dX5_trades_15 : decode cX5_trades 15 = .ok (.iaload, 1) := by decide +kernel
theorem dX5_trades_16 : decode cX5_trades 16 = .ok (.iastore, 1) := by decide +kernel
theorem dX5_trades_17 : decode cX5_trades 17 = .ok (.aload_n 1, 1) := by decide +kernel
theorem dX5_trades_18 : decode cX5_trades 18 = .ok (.iconst 3, 1) := by decide +kernel
theorem dX5_trades_19 : decode cX5_trades 19 = .ok (.iload_n 3, 1) := by decide +kernel
theorem dX5_trades_20 : decode cX5_trades 20 = .ok (.iadd, 1) := by decide +kernel
theorem dX5_trades_21 : decode cX5_trades 21 = .ok (.iload 4, 2) := by decide +kernel
theorem dX5_trades_23 : decode cX5_trades 23 = .ok (.iastore, 1) := by decide +kernel
theorem dX5_trades_24 : decode cX5_trades 24 = .ok (.return_, 1) := by decide +kernel
theorem dX5_changes_0 : decode cX5_changes 0 = .ok (.aload_n 0, 1) := by decide +kernel
theorem dX5_changes_1 : decode cX5_changes 1 = .ok (.iconst 0, 1) := by decide +kernel
theorem dX5_changes_2 : decode cX5_changes 2 = .ok (.putfield 54, 3) := by decide +kernel
theorem dX5_changes_5 : decode cX5_changes 5 = .ok (.aload_n 0, 1) := by decide +kernel
theorem dX5_changes_6 : decode cX5_changes 6 = .ok (.iload_n 1, 1) := by decide +kernel
theorem dX5_changes_7 : decode cX5_changes 7 = .ok (.invokevirtual 158, 3) := by decide +kernel
theorem dX5_changes_10 : decode cX5_changes 10 = .ok (.ifCond .eq 16, 3) := by decide +kernel
theorem dX5_changes_13 : decode cX5_changes 13 = .ok (.aload_n 0, 1) := by decide +kernel
theorem dX5_changes_14 : decode cX5_changes 14 = .ok (.iload_n 2, 1) := by decide +kernel
theorem dX5_changes_15 : decode cX5_changes 15 = .ok (.invokevirtual 158, 3) := by decide +kernel
theorem dX5_changes_18 : decode cX5_changes 18 = .ok (.ifCond .eq 8, 3) := by decide +kernel
theorem dX5_changes_21 : decode cX5_changes 21 = .ok (.iload_n 1, 1) := by decide +kernel
theorem dX5_changes_22 : decode cX5_changes 22 = .ok (.iload_n 2, 1) := by decide +kernel
theorem dX5_changes_23 : decode cX5_changes 23 = .ok (.if_icmp .ne 5, 3) := by decide +kernel
theorem dX5_changes_26 : decode cX5_changes 26 = .ok (.iconst (-1), 1) := by decide +kernel
theorem dX5_changes_27 : decode cX5_changes 27 = .ok (.ireturn, 1) := by decide +kernel
theorem dX5_changes_28 : decode cX5_changes 28 = .ok (.aload_n 0, 1) := by decide +kernel
theorem dX5_changes_29 : decode cX5_changes 29 = .ok (.invokevirtual 166, 3) := by decide +kernel
theorem dX5_changes_32 : decode cX5_changes 32 = .ok (.aload_n 0, 1) := by decide +kernel
theorem dX5_changes_33 : decode cX5_changes 33 = .ok (.aload_n 0, 1) := by decide +kernel
theorem dX5_changes_34 : decode cX5_changes 34 = .ok (.getfield 22, 3) := by decide +kernel
theorem dX5_changes_37 : decode cX5_changes 37 = .ok (.iload_n 1, 1) := by decide +kernel
theorem dX5_changes_38 : decode cX5_changes 38 = .ok (.iload_n 2, 1) := by decide +kernel
theorem dX5_changes_39 : decode cX5_changes 39 = .ok (.invokevirtual 169, 3) := by decide +kernel
theorem dX5_changes_42 : decode cX5_changes 42 = .ok (.aload_n 0, 1) := by decide +kernel
theorem dX5_changes_43 : decode cX5_changes 43 = .ok (.aload_n 0, 1) := by decide +kernel
theorem dX5_changes_44 : decode cX5_changes 44 = .ok (.getfield 22, 3) := by decide +kernel
theorem dX5_changes_47 : decode cX5_changes 47 = .ok (.invokevirtual 138, 3) := by decide +kernel
theorem dX5_changes_50 : decode cX5_changes 50 = .ok (.ireturn, 1) := by decide +kernel
theorem dX5_holds_0 : decode cX5_holds 0 = .ok (.aload_n 0, 1) := by decide +kernel
theorem dX5_holds_1 : decode cX5_holds 1 = .ok (.iconst 0, 1) := by decide +kernel
theorem dX5_holds_2 : decode cX5_holds 2 = .ok (.putfield 54, 3) := by decide +kernel
theorem dX5_holds_5 : decode cX5_holds 5 = .ok (.aload_n 0, 1) := by decide +kernel
theorem dX5_holds_6 : decode cX5_holds 6 = .ok (.iload_n 1, 1) := by decide +kernel
theorem dX5_holds_7 : decode cX5_holds 7 = .ok (.invokevirtual 158, 3) := by decide +kernel
theorem dX5_holds_10 : decode cX5_holds 10 = .ok (.ifCond .ne 5, 3) := by decide +kernel
theorem dX5_holds_13 : decode cX5_holds 13 = .ok (.iconst (-1), 1) := by decide +kernel
theorem dX5_holds_14 : decode cX5_holds 14 = .ok (.ireturn, 1) := by decide +kernel
theorem dX5_holds_15 : decode cX5_holds 15 = .ok (.aload_n 0, 1) := by decide +kernel
theorem dX5_holds_16 : decode cX5_holds 16 = .ok (.getfield 22, 3) := by decide +kernel
theorem dX5_holds_19 : decode cX5_holds 19 = .ok (.bipush 11, 2) := by decide +kernel
theorem dX5_holds_21 : decode cX5_holds 21 = .ok (.iload_n 1, 1) := by decide +kernel
theorem dX5_holds_22 : decode cX5_holds 22 = .ok (.iadd, 1) := by decide +kernel
theorem dX5_holds_23 : decode cX5_holds 23 = .ok (.iaload, 1) := by decide +kernel
theorem dX5_holds_24 : decode cX5_holds 24 = .ok (.istore_n 2, 1) := by decide +kernel
theorem dX5_holds_25 : decode cX5_holds 25 = .ok (.iload_n 2, 1) := by decide +kernel
theorem dX5_holds_26 : decode cX5_holds 26 = .ok (.ifCond .ne 6, 3) := by decide +kernel
theorem dX5_holds_29 : decode cX5_holds 29 = .ok (.bipush (-2), 2) := by decide +kernel
theorem dX5_holds_31 : decode cX5_holds 31 = .ok (.ireturn, 1) := by decide +kernel
theorem dX5_holds_32 : decode cX5_holds 32 = .ok (.aload_n 0, 1) := by decide +kernel
theorem dX5_holds_33 : decode cX5_holds 33 = .ok (.invokevirtual 166, 3) := by decide +kernel
end
section
theorem dX5_holds_36 : decode cX5_holds 36 = .ok (.aload_n 0, 1) := by decide +kernel
theorem dX5_holds_37 : decode cX5_holds 37 = .ok (.getfield 22, 3) := by decide +kernel
theorem dX5_holds_40 : decode cX5_holds 40 = .ok (.bipush 11, 2) := by decide +kernel
theorem dX5_holds_42 : decode cX5_holds 42 = .ok (.iload_n 1, 1) := by decide +kernel
theorem dX5_holds_43 : decode cX5_holds 43 = .ok (.iadd, 1) := by decide +kernel
theorem dX5_holds_44 : decode cX5_holds 44 = .ok (.iconst 0, 1) := by decide +kernel
theorem dX5_holds_45 : decode cX5_holds 45 = .ok (.iastore, 1) := by decide +kernel
theorem dX5_holds_46 : decode cX5_holds 46 = .ok (.iload_n 2, 1) := by decide +kernel
theorem dX5_holds_47 : decode cX5_holds 47 = .ok (.ireturn, 1) := by decide +kernel
theorem dX5_undo_0 : decode cX5_undo 0 = .ok (.aload_n 0, 1) := by decide +kernel
theorem dX5_undo_1 : decode cX5_undo 1 = .ok (.iconst 0, 1) := by decide +kernel
theorem dX5_undo_2 : decode cX5_undo 2 = .ok (.putfield 54, 3) := by decide +kernel
theorem dX5_undo_5 : decode cX5_undo 5 = .ok (.aload_n 0, 1) := by decide +kernel
theorem dX5_undo_6 : decode cX5_undo 6 = .ok (.getfield 121, 3) := by decide +kernel
theorem dX5_undo_9 : decode cX5_undo 9 = .ok (.ifCond .ne 6, 3) := by decide +kernel
theorem dX5_undo_12 : decode cX5_undo 12 = .ok (.bipush (-2), 2) := by decide +kernel
theorem dX5_undo_14 : decode cX5_undo 14 = .ok (.ireturn, 1) := by decide +kernel
theorem dX5_undo_15 : decode cX5_undo 15 = .ok (.aload_n 0, 1) := by decide +kernel
theorem dX5_undo_16 : decode cX5_undo 16 = .ok (.dup, 1) := by decide +kernel
theorem dX5_undo_17 : decode cX5_undo 17 = .ok (.getfield 121, 3) := by decide +kernel
theorem dX5_undo_20 : decode cX5_undo 20 = .ok (.iconst 1, 1) := by decide +kernel
theorem dX5_undo_21 : decode cX5_undo 21 = .ok (.isub, 1) := by decide +kernel
theorem dX5_undo_22 : decode cX5_undo 22 = .ok (.putfield 121, 3) := by decide +kernel
theorem dX5_undo_25 : decode cX5_undo 25 = .ok (.iconst 0, 1) := by decide +kernel
theorem dX5_undo_26 : decode cX5_undo 26 = .ok (.istore_n 1, 1) := by decide +kernel
theorem dX5_undo_27 : decode cX5_undo 27 = .ok (.iload_n 1, 1) := by decide +kernel
theorem dX5_undo_28 : decode cX5_undo 28 = .ok (.bipush 19, 2) := by decide +kernel
theorem dX5_undo_30 : decode cX5_undo 30 = .ok (.if_icmp .ge 29, 3) := by decide +kernel
theorem dX5_undo_33 : decode cX5_undo 33 = .ok (.aload_n 0, 1) := by decide +kernel
theorem dX5_undo_34 : decode cX5_undo 34 = .ok (.getfield 22, 3) := by decide +kernel
theorem dX5_undo_37 : decode cX5_undo 37 = .ok (.iload_n 1, 1) := by decide +kernel
theorem dX5_undo_38 : decode cX5_undo 38 = .ok (.aload_n 0, 1) := by decide +kernel
theorem dX5_undo_39 : decode cX5_undo 39 = .ok (.getfield 35, 3) := by decide +kernel
theorem dX5_undo_42 : decode cX5_undo 42 = .ok (.bipush 19, 2) := by decide +kernel
theorem dX5_undo_44 : decode cX5_undo 44 = .ok (.aload_n 0, 1) := by decide +kernel
theorem dX5_undo_45 : decode cX5_undo 45 = .ok (.getfield 121, 3) := by decide +kernel
theorem dX5_undo_48 : decode cX5_undo 48 = .ok (.imul, 1) := by decide +kernel
theorem dX5_undo_49 : decode cX5_undo 49 = .ok (.iload_n 1, 1) := by decide +kernel
theorem dX5_undo_50 : decode cX5_undo 50 = .ok (.iadd, 1) := by decide +kernel
theorem dX5_undo_51 : decode cX5_undo 51 = .ok (.iaload, 1) := by decide +kernel
theorem dX5_undo_52 : decode cX5_undo 52 = .ok (.iastore, 1) := by decide +kernel
theorem dX5_undo_53 : decode cX5_undo 53 = .ok (.iinc 1 1, 3) := by decide +kernel
theorem dX5_undo_56 : decode cX5_undo 56 = .ok (.goto (-29), 3) := by decide +kernel
theorem dX5_undo_59 : decode cX5_undo 59 = .ok (.aload_n 0, 1) := by decide +kernel
theorem dX5_undo_60 : decode cX5_undo 60 = .ok (.getfield 121, 3) := by decide +kernel
theorem dX5_undo_63 : decode cX5_undo 63 = .ok (.ireturn, 1) := by decide +kernel
theorem dX5_comes_0 : decode cX5_comes 0 = .ok (.aload_n 0, 1) := by decide +kernel
theorem dX5_comes_1 : decode cX5_comes 1 = .ok (.iconst 0, 1) := by decide +kernel
theorem dX5_comes_2 : decode cX5_comes 2 = .ok (.putfield 54, 3) := by decide +kernel
theorem dX5_comes_5 : decode cX5_comes 5 = .ok (.iload_n 1, 1) := by decide +kernel
theorem dX5_comes_6 : decode cX5_comes 6 = .ok (.iconst 0, 1) := by decide +kernel
theorem dX5_comes_7 : decode cX5_comes 7 = .ok (.bipush 20, 2) := by decide +kernel
theorem dX5_comes_9 : decode cX5_comes 9 = .ok (.invokestatic 57, 3) := by decide +kernel
theorem dX5_comes_12 : decode cX5_comes 12 = .ok (.ifCond .eq 12, 3) := by decide +kernel
theorem dX5_comes_15 : decode cX5_comes 15 = .ok (.iload_n 2, 1) := by decide +kernel
theorem dX5_comes_16 : decode cX5_comes 16 = .ok (.iconst 0, 1) := by decide +kernel
theorem dX5_comes_17 : decode cX5_comes 17 = .ok (.iconst 1, 1) := by decide +kernel
theorem dX5_comes_18 : decode cX5_comes 18 = .ok (.invokestatic 57, 3) := by decide +kernel
theorem dX5_comes_21 : decode cX5_comes 21 = .ok (.ifCond .ne 5, 3) := by decide +kernel
theorem dX5_comes_24 : decode cX5_comes 24 = .ok (.iconst (-1), 1) := by decide +kernel
theorem dX5_comes_25 : decode cX5_comes 25 = .ok (.ireturn, 1) := by decide +kernel
theorem dX5_comes_26 : decode cX5_comes 26 = .ok (.aload_n 0, 1) := by decide +kernel
theorem dX5_comes_27 : decode cX5_comes 27 = .ok (.invokevirtual 149, 3) := by decide +kernel
theorem dX5_comes_30 : decode cX5_comes 30 = .ok (.aload_n 0, 1) := by decide +kernel
theorem dX5_comes_31 : decode cX5_comes 31 = .ok (.aload_n 0, 1) := by decide +kernel
theorem dX5_comes_32 : decode cX5_comes 32 = .ok (.aload_n 0, 1) := by decide +kernel
theorem dX5_comes_33 : decode cX5_comes 33 = .ok (.getfield 25, 3) := by decide +kernel
theorem dX5_comes_36 : decode cX5_comes 36 = .ok (.invokevirtual 138, 3) := by decide +kernel
theorem dX5_comes_39 : decode cX5_comes 39 = .ok (.putfield 135, 3) := by decide +kernel
theorem dX5_comes_42 : decode cX5_comes 42 = .ok (.aload_n 0, 1) := by decide +kernel
theorem dX5_comes_43 : decode cX5_comes 43 = .ok (.iload_n 1, 1) := by decide +kernel
theorem dX5_comes_44 : decode cX5_comes 44 = .ok (.invokevirtual 152, 3) := by decide +kernel
theorem dX5_comes_47 : decode cX5_comes 47 = .ok (.iload_n 2, 1) := by decide +kernel
theorem dX5_comes_48 : decode cX5_comes 48 = .ok (.ifCond .ne 10, 3) := by decide +kernel
theorem dX5_comes_51 : decode cX5_comes 51 = .ok (.aload_n 0, 1) := by decide +kernel
theorem dX5_comes_52 : decode cX5_comes 52 = .ok (.getfield 132, 3) := by decide +kernel
theorem dX5_comes_55 : decode cX5_comes 55 = .ok (.goto 7, 3) := by decide +kernel
theorem dX5_comes_58 : decode cX5_comes 58 = .ok (.aload_n 0, 1) := by decide +kernel
theorem dX5_comes_59 : decode cX5_comes 59 = .ok (.getfield 135, 3) := by decide +kernel
theorem dX5_comes_62 : decode cX5_comes 62 = .ok (.ireturn, 1) := by decide +kernel
theorem dX5_best_0 : decode cX5_best 0 = .ok (.aload_n 0, 1) := by decide +kernel
theorem dX5_best_1 : decode cX5_best 1 = .ok (.iconst 0, 1) := by decide +kernel
theorem dX5_best_2 : decode cX5_best 2 = .ok (.putfield 54, 3) := by decide +kernel
theorem dX5_best_5 : decode cX5_best 5 = .ok (.iload_n 1, 1) := by decide +kernel
theorem dX5_best_6 : decode cX5_best 6 = .ok (.iconst 0, 1) := by decide +kernel
theorem dX5_best_7 : decode cX5_best 7 = .ok (.bipush 20, 2) := by decide +kernel
theorem dX5_best_9 : decode cX5_best 9 = .ok (.invokestatic 57, 3) := by decide +kernel
theorem dX5_best_12 : decode cX5_best 12 = .ok (.ifCond .eq 12, 3) := by decide +kernel
theorem dX5_best_15 : decode cX5_best 15 = .ok (.iload_n 2, 1) := by decide +kernel
theorem dX5_best_16 : decode cX5_best 16 = .ok (.iconst 0, 1) := by decide +kernel
theorem dX5_best_17 : decode cX5_best 17 = .ok (.iconst 1, 1) := by decide +kernel
theorem dX5_best_18 : decode cX5_best 18 = .ok (.invokestatic 57, 3) := by decide +kernel
theorem dX5_best_21 : decode cX5_best 21 = .ok (.ifCond .ne 5, 3) := by decide +kernel
theorem dX5_best_24 : decode cX5_best 24 = .ok (.iconst (-1), 1) := by decide +kernel
theorem dX5_best_25 : decode cX5_best 25 = .ok (.ireturn, 1) := by decide +kernel
theorem dX5_best_26 : decode cX5_best 26 = .ok (.bipush (-9), 2) := by decide +kernel
theorem dX5_best_28 : decode cX5_best 28 = .ok (.istore_n 3, 1) := by decide +kernel
theorem dX5_best_29 : decode cX5_best 29 = .ok (.iconst (-1), 1) := by decide +kernel
theorem dX5_best_30 : decode cX5_best 30 = .ok (.istore 4, 2) := by decide +kernel
theorem dX5_best_32 : decode cX5_best 32 = .ok (.bipush (-9), 2) := by decide +kernel
theorem dX5_best_34 : decode cX5_best 34 = .ok (.istore 5, 2) := by decide +kernel
theorem dX5_best_36 : decode cX5_best 36 = .ok (.bipush 99, 2) := by decide +kernel
theorem dX5_best_38 : decode cX5_best 38 = .ok (.istore 6, 2) := by decide +kernel
theorem dX5_best_40 : decode cX5_best 40 = .ok (.iconst 0, 1) := by decide +kernel
theorem dX5_best_41 : decode cX5_best 41 = .ok (.istore 7, 2) := by decide +kernel
theorem dX5_best_43 : decode cX5_best 43 = .ok (.iload 7, 2) := by decide +kernel
theorem dX5_best_45 : decode cX5_best 45 = .ok (.bipush 10, 2) := by decide +kernel
theorem dX5_best_47 : decode cX5_best 47 = .ok (.aload_n 0, 1) := by decide +kernel
theorem dX5_best_48 : decode cX5_best 48 = .ok (.getfield 115, 3) := by decide +kernel
theorem dX5_best_51 : decode cX5_best 51 = .ok (.imul, 1) := by decide +kernel
theorem dX5_best_52 : decode cX5_best 52 = .ok (.if_icmp .ge 135, 3) := by decide +kernel
theorem dX5_best_55 : decode cX5_best 55 = .ok (.iload 7, 2) := by decide +kernel
theorem dX5_best_57 : decode cX5_best 57 = .ok (.bipush 10, 2) := by decide +kernel
theorem dX5_best_59 : decode cX5_best 59 = .ok (.irem, 1) := by decide +kernel
theorem dX5_best_60 : decode cX5_best 60 = .ok (.ifCond .le 121, 3) := by decide +kernel
theorem dX5_best_63 : decode cX5_best 63 = .ok (.aload_n 0, 1) := by decide +kernel
theorem dX5_best_64 : decode cX5_best 64 = .ok (.iload 7, 2) := by decide +kernel
theorem dX5_best_66 : decode cX5_best 66 = .ok (.bipush 10, 2) := by decide +kernel
theorem dX5_best_68 : decode cX5_best 68 = .ok (.idiv, 1) := by decide +kernel
theorem dX5_best_69 : decode cX5_best 69 = .ok (.iload 7, 2) := by decide +kernel
theorem dX5_best_71 : decode cX5_best 71 = .ok (.bipush 10, 2) := by decide +kernel
theorem dX5_best_73 : decode cX5_best 73 = .ok (.irem, 1) := by decide +kernel
theorem dX5_best_74 : decode cX5_best 74 = .ok (.iload_n 1, 1) := by decide +kernel
theorem dX5_best_75 : decode cX5_best 75 = .ok (.invokevirtual 173, 3) := by decide +kernel
theorem dX5_best_78 : decode cX5_best 78 = .ok (.aload_n 0, 1) := by decide +kernel
theorem dX5_best_79 : decode cX5_best 79 = .ok (.getfield 132, 3) := by decide +kernel
theorem dX5_best_82 : decode cX5_best 82 = .ok (.invokestatic 177, 3) := by decide +kernel
theorem dX5_best_85 : decode cX5_best 85 = .ok (.iload 4, 2) := by decide +kernel
theorem dX5_best_87 : decode cX5_best 87 = .ok (.if_icmp .le 7, 3) := by decide +kernel
theorem dX5_best_90 : decode cX5_best 90 = .ok (.iconst 1, 1) := by decide +kernel
theorem dX5_best_91 : decode cX5_best 91 = .ok (.goto 4, 3) := by decide +kernel
theorem dX5_best_94 : decode cX5_best 94 = .ok (.iconst 0, 1) := by decide +kernel
theorem dX5_best_95 : decode cX5_best 95 = .ok (.istore 8, 2) := by decide +kernel
theorem dX5_best_97 : decode cX5_best 97 = .ok (.iload 8, 2) := by decide +kernel
theorem dX5_best_99 : decode cX5_best 99 = .ok (.ifCond .eq 8, 3) := by decide +kernel
theorem dX5_best_102 : decode cX5_best 102 = .ok (.iload 7, 2) := by decide +kernel
theorem dX5_best_104 : decode cX5_best 104 = .ok (.goto 4, 3) := by decide +kernel
theorem dX5_best_107 : decode cX5_best 107 = .ok (.iload_n 3, 1) := by decide +kernel
theorem dX5_best_108 : decode cX5_best 108 = .ok (.istore_n 3, 1) := by decide +kernel
theorem dX5_best_109 : decode cX5_best 109 = .ok (.iload 8, 2) := by decide +kernel
theorem dX5_best_111 : decode cX5_best 111 = .ok (.ifCond .eq 13, 3) := by decide +kernel
theorem dX5_best_114 : decode cX5_best 114 = .ok (.aload_n 0, 1) := by decide +kernel
theorem dX5_best_115 : decode cX5_best 115 = .ok (.getfield 132, 3) := by decide +kernel
theorem dX5_best_118 : decode cX5_best 118 = .ok (.invokestatic 177, 3) := by decide +kernel
theorem dX5_best_121 : decode cX5_best 121 = .ok (.goto 5, 3) := by decide +kernel
theorem dX5_best_124 : decode cX5_best 124 = .ok (.iload 4, 2) := by decide +kernel
theorem dX5_best_126 : decode cX5_best 126 = .ok (.istore 4, 2) := by decide +kernel
theorem dX5_best_128 : decode cX5_best 128 = .ok (.aload_n 0, 1) := by decide +kernel
theorem dX5_best_129 : decode cX5_best 129 = .ok (.getfield 132, 3) := by decide +kernel
theorem dX5_best_132 : decode cX5_best 132 = .ok (.ifCond .eq 16, 3) := by decide +kernel
theorem dX5_best_135 : decode cX5_best 135 = .ok (.aload_n 0, 1) := by decide +kernel
theorem dX5_best_136 : decode cX5_best 136 = .ok (.getfield 135, 3) := by decide +kernel
theorem dX5_best_139 : decode cX5_best 139 = .ok (.iload 6, 2) := by decide +kernel
theorem dX5_best_141 : decode cX5_best 141 = .ok (.if_icmp .ge 7, 3) := by decide +kernel
theorem dX5_best_144 : decode cX5_best 144 = .ok (.iconst 1, 1) := by decide +kernel
theorem dX5_best_145 : decode cX5_best 145 = .ok (.goto 4, 3) := by decide +kernel
theorem dX5_best_148 : decode cX5_best 148 = .ok (.iconst 0, 1) := by decide +kernel
theorem dX5_best_149 : decode cX5_best 149 = .ok (.istore 9, 2) := by decide +kernel
theorem dX5_best_151 : decode cX5_best 151 = .ok (.iload 9, 2) := by decide +kernel
theorem dX5_best_153 : decode cX5_best 153 = .ok (.ifCond .eq 8, 3) := by decide +kernel
theorem dX5_best_156 : decode cX5_best 156 = .ok (.iload 7, 2) := by decide +kernel
theorem dX5_best_158 : decode cX5_best 158 = .ok (.goto 5, 3) := by decide +kernel
theorem dX5_best_161 : decode cX5_best 161 = .ok (.iload 5, 2) := by decide +kernel
theorem dX5_best_163 : decode cX5_best 163 = .ok (.istore 5, 2) := by decide +kernel
theorem dX5_best_165 : decode cX5_best 165 = .ok (.iload 9, 2) := by decide +kernel
theorem dX5_best_167 : decode cX5_best 167 = .ok (.ifCond .eq 10, 3) := by decide +kernel
theorem dX5_best_170 : decode cX5_best 170 = .ok (.aload_n 0, 1) := by decide +kernel
theorem dX5_best_171 : decode cX5_best 171 = .ok (.getfield 135, 3) := by decide +kernel
theorem dX5_best_174 : decode cX5_best 174 = .ok (.goto 5, 3) := by decide +kernel
theorem dX5_best_177 : decode cX5_best 177 = .ok (.iload 6, 2) := by decide +kernel
theorem dX5_best_179 : decode cX5_best 179 = .ok (.istore 6, 2) := by decide +kernel
theorem dX5_best_181 : decode cX5_best 181 = .ok (.iinc 7 1, 3) := by decide +kernel
theorem dX5_best_184 : decode cX5_best 184 = .ok (.goto (-141), 3) := by decide +kernel
theorem dX5_best_187 : decode cX5_best 187 = .ok (.iload_n 2, 1) := by decide +kernel
theorem dX5_best_188 : decode cX5_best 188 = .ok (.ifCond .ne 7, 3) := by decide +kernel
theorem dX5_best_191 : decode cX5_best 191 = .ok (.iload_n 3, 1) := by decide +kernel
theorem dX5_best_192 : decode cX5_best 192 = .ok (.goto 5, 3) := by decide +kernel
theorem dX5_best_195 : decode cX5_best 195 = .ok (.iload 5, 2) := by decide +kernel
theorem dX5_best_197 : decode cX5_best 197 = .ok (.ireturn, 1) := by decide +kernel
theorem dX5_swap_0 : decode cX5_swap 0 = .ok (.aload_n 0, 1) := by decide +kernel
theorem dX5_swap_1 : decode cX5_swap 1 = .ok (.iconst 0, 1) := by decide +kernel
theorem dX5_swap_2 : decode cX5_swap 2 = .ok (.putfield 54, 3) := by decide +kernel
theorem dX5_swap_5 : decode cX5_swap 5 = .ok (.aload_n 0, 1) := by decide +kernel
theorem dX5_swap_6 : decode cX5_swap 6 = .ok (.iload_n 1, 1) := by decide +kernel
theorem dX5_swap_7 : decode cX5_swap 7 = .ok (.invokevirtual 158, 3) := by decide +kernel
theorem dX5_swap_10 : decode cX5_swap 10 = .ok (.ifCond .eq 23, 3) := by decide +kernel
theorem dX5_swap_13 : decode cX5_swap 13 = .ok (.iload_n 2, 1) := by decide +kernel
theorem dX5_swap_14 : decode cX5_swap 14 = .ok (.iconst 1, 1) := by decide +kernel
theorem dX5_swap_15 : decode cX5_swap 15 = .ok (.bipush 9, 2) := by decide +kernel
theorem dX5_swap_17 : decode cX5_swap 17 = .ok (.invokestatic 57, 3) := by decide +kernel
theorem dX5_swap_20 : decode cX5_swap 20 = .ok (.ifCond .eq 13, 3) := by decide +kernel
theorem dX5_swap_23 : decode cX5_swap 23 = .ok (.iload_n 3, 1) := by decide +kernel
theorem dX5_swap_24 : decode cX5_swap 24 = .ok (.iconst 0, 1) := by decide +kernel
theorem dX5_swap_25 : decode cX5_swap 25 = .ok (.bipush 20, 2) := by decide +kernel
theorem dX5_swap_27 : decode cX5_swap 27 = .ok (.invokestatic 57, 3) := by decide +kernel
theorem dX5_swap_30 : decode cX5_swap 30 = .ok (.ifCond .ne 5, 3) := by decide +kernel
theorem dX5_swap_33 : decode cX5_swap 33 = .ok (.iconst (-1), 1) := by decide +kernel
theorem dX5_swap_34 : decode cX5_swap 34 = .ok (.ireturn, 1) := by decide +kernel
theorem dX5_swap_35 : decode cX5_swap 35 = .ok (.aload_n 0, 1) := by decide +kernel
theorem dX5_swap_36 : decode cX5_swap 36 = .ok (.iload_n 1, 1) := by decide +kernel
theorem dX5_swap_37 : decode cX5_swap 37 = .ok (.iload_n 2, 1) := by decide +kernel
theorem dX5_swap_38 : decode cX5_swap 38 = .ok (.iload_n 3, 1) := by decide +kernel
theorem dX5_swap_39 : decode cX5_swap 39 = .ok (.invokevirtual 173, 3) := by decide +kernel
theorem dX5_swap_42 : decode cX5_swap 42 = .ok (.aload_n 0, 1) := by decide +kernel
theorem dX5_swap_43 : decode cX5_swap 43 = .ok (.getfield 135, 3) := by decide +kernel
theorem dX5_swap_46 : decode cX5_swap 46 = .ok (.istore 4, 2) := by decide +kernel
theorem dX5_swap_48 : decode cX5_swap 48 = .ok (.bipush (-9), 2) := by decide +kernel
theorem dX5_swap_50 : decode cX5_swap 50 = .ok (.istore 5, 2) := by decide +kernel
theorem dX5_swap_52 : decode cX5_swap 52 = .ok (.iconst 0, 1) := by decide +kernel
theorem dX5_swap_53 : decode cX5_swap 53 = .ok (.istore 6, 2) := by decide +kernel
theorem dX5_swap_55 : decode cX5_swap 55 = .ok (.iload 6, 2) := by decide +kernel
theorem dX5_swap_57 : decode cX5_swap 57 = .ok (.aload_n 0, 1) := by decide +kernel
theorem dX5_swap_58 : decode cX5_swap 58 = .ok (.getfield 115, 3) := by decide +kernel
theorem dX5_swap_61 : decode cX5_swap 61 = .ok (.if_icmp .ge 105, 3) := by decide +kernel
theorem dX5_swap_64 : decode cX5_swap 64 = .ok (.iload 6, 2) := by decide +kernel
theorem dX5_swap_66 : decode cX5_swap 66 = .ok (.iconst 1, 1) := by decide +kernel
theorem dX5_swap_67 : decode cX5_swap 67 = .ok (.iadd, 1) := by decide +kernel
theorem dX5_swap_68 : decode cX5_swap 68 = .ok (.istore 7, 2) := by decide +kernel
theorem dX5_swap_70 : decode cX5_swap 70 = .ok (.iload 7, 2) := by decide +kernel
theorem dX5_swap_72 : decode cX5_swap 72 = .ok (.aload_n 0, 1) := by decide +kernel
theorem dX5_swap_73 : decode cX5_swap 73 = .ok (.getfield 115, 3) := by decide +kernel
theorem dX5_swap_76 : decode cX5_swap 76 = .ok (.if_icmp .ge 84, 3) := by decide +kernel
theorem dX5_swap_79 : decode cX5_swap 79 = .ok (.aload_n 0, 1) := by decide +kernel
theorem dX5_swap_80 : decode cX5_swap 80 = .ok (.aload_n 0, 1) := by decide +kernel
theorem dX5_swap_81 : decode cX5_swap 81 = .ok (.getfield 22, 3) := by decide +kernel
theorem dX5_swap_84 : decode cX5_swap 84 = .ok (.iload 6, 2) := by decide +kernel
theorem dX5_swap_86 : decode cX5_swap 86 = .ok (.iload 7, 2) := by decide +kernel
theorem dX5_swap_88 : decode cX5_swap 88 = .ok (.invokevirtual 169, 3) := by decide +kernel
theorem dX5_swap_91 : decode cX5_swap 91 = .ok (.aload_n 0, 1) := by decide +kernel
theorem dX5_swap_92 : decode cX5_swap 92 = .ok (.iload_n 1, 1) := by decide +kernel
theorem dX5_swap_93 : decode cX5_swap 93 = .ok (.iload_n 2, 1) := by decide +kernel
theorem dX5_swap_94 : decode cX5_swap 94 = .ok (.iload_n 3, 1) := by decide +kernel
theorem dX5_swap_95 : decode cX5_swap 95 = .ok (.invokevirtual 173, 3) := by decide +kernel
theorem dX5_swap_98 : decode cX5_swap 98 = .ok (.aload_n 0, 1) := by decide +kernel
theorem dX5_swap_99 : decode cX5_swap 99 = .ok (.aload_n 0, 1) := by decide +kernel
theorem dX5_swap_100 : decode cX5_swap 100 = .ok (.getfield 22, 3) := by decide +kernel
theorem dX5_swap_103 : decode cX5_swap 103 = .ok (.iload 6, 2) := by decide +kernel
theorem dX5_swap_105 : decode cX5_swap 105 = .ok (.iload 7, 2) := by decide +kernel
theorem dX5_swap_107 : decode cX5_swap 107 = .ok (.invokevirtual 169, 3) := by decide +kernel
theorem dX5_swap_110 : decode cX5_swap 110 = .ok (.aload_n 0, 1) := by decide +kernel
theorem dX5_swap_111 : decode cX5_swap 111 = .ok (.getfield 135, 3) := by decide +kernel
theorem dX5_swap_114 : decode cX5_swap 114 = .ok (.iload 4, 2) := by decide +kernel
theorem dX5_swap_116 : decode cX5_swap 116 = .ok (.if_icmp .ge 14, 3) := by decide +kernel
theorem dX5_swap_119 : decode cX5_swap 119 = .ok (.bipush 10, 2) := by decide +kernel
theorem dX5_swap_121 : decode cX5_swap 121 = .ok (.iload 6, 2) := by decide +kernel
theorem dX5_swap_123 : decode cX5_swap 123 = .ok (.imul, 1) := by decide +kernel
theorem dX5_swap_124 : decode cX5_swap 124 = .ok (.iload 7, 2) := by decide +kernel
theorem dX5_swap_126 : decode cX5_swap 126 = .ok (.iadd, 1) := by decide +kernel
theorem dX5_swap_127 : decode cX5_swap 127 = .ok (.goto 5, 3) := by decide +kernel
theorem dX5_swap_130 : decode cX5_swap 130 = .ok (.iload 5, 2) := by decide +kernel
theorem dX5_swap_132 : decode cX5_swap 132 = .ok (.istore 5, 2) := by decide +kernel
theorem dX5_swap_134 : decode cX5_swap 134 = .ok (.aload_n 0, 1) := by decide +kernel
theorem dX5_swap_135 : decode cX5_swap 135 = .ok (.getfield 135, 3) := by decide +kernel
theorem dX5_swap_138 : decode cX5_swap 138 = .ok (.iload 4, 2) := by decide +kernel
theorem dX5_swap_140 : decode cX5_swap 140 = .ok (.if_icmp .ge 10, 3) := by decide +kernel
theorem dX5_swap_143 : decode cX5_swap 143 = .ok (.aload_n 0, 1) := by decide +kernel
theorem dX5_swap_144 : decode cX5_swap 144 = .ok (.getfield 135, 3) := by decide +kernel
theorem dX5_swap_147 : decode cX5_swap 147 = .ok (.goto 5, 3) := by decide +kernel
theorem dX5_swap_150 : decode cX5_swap 150 = .ok (.iload 4, 2) := by decide +kernel
theorem dX5_swap_152 : decode cX5_swap 152 = .ok (.istore 4, 2) := by decide +kernel
theorem dX5_swap_154 : decode cX5_swap 154 = .ok (.iinc 7 1, 3) := by decide +kernel
theorem dX5_swap_157 : decode cX5_swap 157 = .ok (.goto (-87), 3) := by decide +kernel
theorem dX5_swap_160 : decode cX5_swap 160 = .ok (.iinc 6 1, 3) := by decide +kernel
theorem dX5_swap_163 : decode cX5_swap 163 = .ok (.goto (-108), 3) := by decide +kernel
theorem dX5_swap_166 : decode cX5_swap 166 = .ok (.iload 5, 2) := by decide +kernel
theorem dX5_swap_168 : decode cX5_swap 168 = .ok (.ireturn, 1) := by decide +kernel
theorem dX5_gcd_0 : decode cX5_gcd 0 = .ok (.iload_n 0, 1) := by decide +kernel
theorem dX5_gcd_1 : decode cX5_gcd 1 = .ok (.istore_n 2, 1) := by decide +kernel
theorem dX5_gcd_2 : decode cX5_gcd 2 = .ok (.iload_n 1, 1) := by decide +kernel
theorem dX5_gcd_3 : decode cX5_gcd 3 = .ok (.istore_n 3, 1) := by decide +kernel
theorem dX5_gcd_4 : decode cX5_gcd 4 = .ok (.iload_n 3, 1) := by decide +kernel
theorem dX5_gcd_5 : decode cX5_gcd 5 = .ok (.ifCond .eq 16, 3) := by decide +kernel
theorem dX5_gcd_8 : decode cX5_gcd 8 = .ok (.iload_n 2, 1) := by decide +kernel
theorem dX5_gcd_9 : decode cX5_gcd 9 = .ok (.iload_n 3, 1) := by decide +kernel
theorem dX5_gcd_10 : decode cX5_gcd 10 = .ok (.irem, 1) := by decide +kernel
theorem dX5_gcd_11 : decode cX5_gcd 11 = .ok (.istore 4, 2) := by decide +kernel
theorem dX5_gcd_13 : decode cX5_gcd 13 = .ok (.iload_n 3, 1) := by decide +kernel
theorem dX5_gcd_14 : decode cX5_gcd 14 = .ok (.istore_n 2, 1) := by decide +kernel
theorem dX5_gcd_15 : decode cX5_gcd 15 = .ok (.iload 4, 2) := by decide +kernel
theorem dX5_gcd_17 : decode cX5_gcd 17 = .ok (.istore_n 3, 1) := by decide +kernel
theorem dX5_gcd_18 : decode cX5_gcd 18 = .ok (.goto (-14), 3) := by decide +kernel
theorem dX5_gcd_21 : decode cX5_gcd 21 = .ok (.iload_n 2, 1) := by decide +kernel
theorem dX5_gcd_22 : decode cX5_gcd 22 = .ok (.ireturn, 1) := by decide +kernel
theorem dX5_odds_0 : decode cX5_odds 0 = .ok (.aload_n 0, 1) := by decide +kernel
theorem dX5_odds_1 : decode cX5_odds 1 = .ok (.iconst 0, 1) := by decide +kernel
theorem dX5_odds_2 : decode cX5_odds 2 = .ok (.putfield 54, 3) := by decide +kernel
theorem dX5_odds_5 : decode cX5_odds 5 = .ok (.iload_n 1, 1) := by decide +kernel
theorem dX5_odds_6 : decode cX5_odds 6 = .ok (.iconst 1, 1) := by decide +kernel
theorem dX5_odds_7 : decode cX5_odds 7 = .ok (.bipush 9, 2) := by decide +kernel
theorem dX5_odds_9 : decode cX5_odds 9 = .ok (.invokestatic 57, 3) := by decide +kernel
theorem dX5_odds_12 : decode cX5_odds 12 = .ok (.ifCond .eq 31, 3) := by decide +kernel
theorem dX5_odds_15 : decode cX5_odds 15 = .ok (.iload_n 2, 1) := by decide +kernel
theorem dX5_odds_16 : decode cX5_odds 16 = .ok (.iconst 0, 1) := by decide +kernel
theorem dX5_odds_17 : decode cX5_odds 17 = .ok (.bipush 20, 2) := by decide +kernel
theorem dX5_odds_19 : decode cX5_odds 19 = .ok (.invokestatic 57, 3) := by decide +kernel
theorem dX5_odds_22 : decode cX5_odds 22 = .ok (.ifCond .eq 21, 3) := by decide +kernel
theorem dX5_odds_25 : decode cX5_odds 25 = .ok (.aload_n 0, 1) := by decide +kernel
theorem dX5_odds_26 : decode cX5_odds 26 = .ok (.iload_n 3, 1) := by decide +kernel
theorem dX5_odds_27 : decode cX5_odds 27 = .ok (.invokevirtual 158, 3) := by decide +kernel
theorem dX5_odds_30 : decode cX5_odds 30 = .ok (.ifCond .eq 13, 3) := by decide +kernel
theorem dX5_odds_33 : decode cX5_odds 33 = .ok (.iload 4, 2) := by decide +kernel
theorem dX5_odds_35 : decode cX5_odds 35 = .ok (.iconst 0, 1) := by decide +kernel
theorem dX5_odds_36 : decode cX5_odds 36 = .ok (.iconst 1, 1) := by decide +kernel
theorem dX5_odds_37 : decode cX5_odds 37 = .ok (.invokestatic 57, 3) := by decide +kernel
theorem dX5_odds_40 : decode cX5_odds 40 = .ok (.ifCond .ne 5, 3) := by decide +kernel
theorem dX5_odds_43 : decode cX5_odds 43 = .ok (.iconst (-1), 1) := by decide +kernel
theorem dX5_odds_44 : decode cX5_odds 44 = .ok (.ireturn, 1) := by decide +kernel
theorem dX5_odds_45 : decode cX5_odds 45 = .ok (.iconst 0, 1) := by decide +kernel
theorem dX5_odds_46 : decode cX5_odds 46 = .ok (.istore 5, 2) := by decide +kernel
theorem dX5_odds_48 : decode cX5_odds 48 = .ok (.iconst 0, 1) := by decide +kernel
theorem dX5_odds_49 : decode cX5_odds 49 = .ok (.istore 6, 2) := by decide +kernel
theorem dX5_odds_51 : decode cX5_odds 51 = .ok (.iload 6, 2) := by decide +kernel
theorem dX5_odds_53 : decode cX5_odds 53 = .ok (.aload_n 0, 1) := by decide +kernel
theorem dX5_odds_54 : decode cX5_odds 54 = .ok (.getfield 115, 3) := by decide +kernel
theorem dX5_odds_57 : decode cX5_odds 57 = .ok (.if_icmp .ge 38, 3) := by decide +kernel
theorem dX5_odds_60 : decode cX5_odds 60 = .ok (.aload_n 0, 1) := by decide +kernel
theorem dX5_odds_61 : decode cX5_odds 61 = .ok (.iload 6, 2) := by decide +kernel
theorem dX5_odds_63 : decode cX5_odds 63 = .ok (.iload_n 1, 1) := by decide +kernel
theorem dX5_odds_64 : decode cX5_odds 64 = .ok (.iload_n 2, 1) := by decide +kernel
theorem dX5_odds_65 : decode cX5_odds 65 = .ok (.invokevirtual 173, 3) := by decide +kernel
theorem dX5_odds_68 : decode cX5_odds 68 = .ok (.iload 5, 2) := by decide +kernel
theorem dX5_odds_70 : decode cX5_odds 70 = .ok (.aload_n 0, 1) := by decide +kernel
theorem dX5_odds_71 : decode cX5_odds 71 = .ok (.getfield 132, 3) := by decide +kernel
theorem dX5_odds_74 : decode cX5_odds 74 = .ok (.iload_n 3, 1) := by decide +kernel
theorem dX5_odds_75 : decode cX5_odds 75 = .ok (.invokestatic 180, 3) := by decide +kernel
theorem dX5_odds_78 : decode cX5_odds 78 = .ok (.ifCond .eq 7, 3) := by decide +kernel
theorem dX5_odds_81 : decode cX5_odds 81 = .ok (.iconst 1, 1) := by decide +kernel
theorem dX5_odds_82 : decode cX5_odds 82 = .ok (.goto 4, 3) := by decide +kernel
theorem dX5_odds_85 : decode cX5_odds 85 = .ok (.iconst 0, 1) := by decide +kernel
theorem dX5_odds_86 : decode cX5_odds 86 = .ok (.iadd, 1) := by decide +kernel
theorem dX5_odds_87 : decode cX5_odds 87 = .ok (.istore 5, 2) := by decide +kernel
theorem dX5_odds_89 : decode cX5_odds 89 = .ok (.iinc 6 1, 3) := by decide +kernel
theorem dX5_odds_92 : decode cX5_odds 92 = .ok (.goto (-41), 3) := by decide +kernel
theorem dX5_odds_95 : decode cX5_odds 95 = .ok (.iload 5, 2) := by decide +kernel
theorem dX5_odds_97 : decode cX5_odds 97 = .ok (.aload_n 0, 1) := by decide +kernel
theorem dX5_odds_98 : decode cX5_odds 98 = .ok (.getfield 115, 3) := by decide +kernel
theorem dX5_odds_101 : decode cX5_odds 101 = .ok (.invokestatic 183, 3) := by decide +kernel
theorem dX5_odds_104 : decode cX5_odds 104 = .ok (.istore 6, 2) := by decide +kernel
theorem dX5_odds_106 : decode cX5_odds 106 = .ok (.iload 4, 2) := by decide +kernel
theorem dX5_odds_108 : decode cX5_odds 108 = .ok (.ifCond .ne 11, 3) := by decide +kernel
theorem dX5_odds_111 : decode cX5_odds 111 = .ok (.iload 5, 2) := by decide +kernel
theorem dX5_odds_113 : decode cX5_odds 113 = .ok (.iload 6, 2) := by decide +kernel
theorem dX5_odds_115 : decode cX5_odds 115 = .ok (.idiv, 1) := by decide +kernel
theorem dX5_odds_116 : decode cX5_odds 116 = .ok (.goto 10, 3) := by decide +kernel
theorem dX5_odds_119 : decode cX5_odds 119 = .ok (.aload_n 0, 1) := by decide +kernel
theorem dX5_odds_120 : decode cX5_odds 120 = .ok (.getfield 115, 3) := by decide +kernel
theorem dX5_odds_123 : decode cX5_odds 123 = .ok (.iload 6, 2) := by decide +kernel
theorem dX5_odds_125 : decode cX5_odds 125 = .ok (.idiv, 1) := by decide +kernel
theorem dX5_odds_126 : decode cX5_odds 126 = .ok (.ireturn, 1) := by decide +kernel
theorem dX5_hears_0 : decode cX5_hears 0 = .ok (.aload_n 0, 1) := by decide +kernel
theorem dX5_hears_1 : decode cX5_hears 1 = .ok (.iconst 0, 1) := by decide +kernel
theorem dX5_hears_2 : decode cX5_hears 2 = .ok (.putfield 54, 3) := by decide +kernel
theorem dX5_hears_5 : decode cX5_hears 5 = .ok (.aload_n 0, 1) := by decide +kernel
theorem dX5_hears_6 : decode cX5_hears 6 = .ok (.iload_n 1, 1) := by decide +kernel
theorem dX5_hears_7 : decode cX5_hears 7 = .ok (.invokevirtual 158, 3) := by decide +kernel
theorem dX5_hears_10 : decode cX5_hears 10 = .ok (.ifCond .eq 22, 3) := by decide +kernel
theorem dX5_hears_13 : decode cX5_hears 13 = .ok (.iload_n 2, 1) := by decide +kernel
theorem dX5_hears_14 : decode cX5_hears 14 = .ok (.iconst 0, 1) := by decide +kernel
theorem dX5_hears_15 : decode cX5_hears 15 = .ok (.bipush 20, 2) := by decide +kernel
theorem dX5_hears_17 : decode cX5_hears 17 = .ok (.invokestatic 57, 3) := by decide +kernel
theorem dX5_hears_20 : decode cX5_hears 20 = .ok (.ifCond .eq 12, 3) := by decide +kernel
theorem dX5_hears_23 : decode cX5_hears 23 = .ok (.iload_n 3, 1) := by decide +kernel
theorem dX5_hears_24 : decode cX5_hears 24 = .ok (.iconst 0, 1) := by decide +kernel
theorem dX5_hears_25 : decode cX5_hears 25 = .ok (.iconst 1, 1) := by decide +kernel
theorem dX5_hears_26 : decode cX5_hears 26 = .ok (.invokestatic 57, 3) := by decide +kernel
theorem dX5_hears_29 : decode cX5_hears 29 = .ok (.ifCond .ne 5, 3) := by decide +kernel
theorem dX5_hears_32 : decode cX5_hears 32 = .ok (.iconst (-1), 1) := by decide +kernel
theorem dX5_hears_33 : decode cX5_hears 33 = .ok (.ireturn, 1) := by decide +kernel
theorem dX5_hears_34 : decode cX5_hears 34 = .ok (.aload_n 0, 1) := by decide +kernel
theorem dX5_hears_35 : decode cX5_hears 35 = .ok (.getfield 118, 3) := by decide +kernel
theorem dX5_hears_38 : decode cX5_hears 38 = .ok (.bipush 6, 2) := by decide +kernel
theorem dX5_hears_40 : decode cX5_hears 40 = .ok (.if_icmp .ne 6, 3) := by decide +kernel
theorem dX5_hears_43 : decode cX5_hears 43 = .ok (.bipush (-3), 2) := by decide +kernel
theorem dX5_hears_45 : decode cX5_hears 45 = .ok (.ireturn, 1) := by decide +kernel
theorem dX5_hears_46 : decode cX5_hears 46 = .ok (.aload_n 0, 1) := by decide +kernel
theorem dX5_hears_47 : decode cX5_hears 47 = .ok (.getfield 38, 3) := by decide +kernel
theorem dX5_hears_50 : decode cX5_hears 50 = .ok (.aload_n 0, 1) := by decide +kernel
theorem dX5_hears_51 : decode cX5_hears 51 = .ok (.getfield 118, 3) := by decide +kernel
theorem dX5_hears_54 : decode cX5_hears 54 = .ok (.iload_n 1, 1) := by decide +kernel
theorem dX5_hears_55 : decode cX5_hears 55 = .ok (.iastore, 1) := by decide +kernel
theorem dX5_hears_56 : decode cX5_hears 56 = .ok (.aload_n 0, 1) := by decide +kernel
theorem dX5_hears_57 : decode cX5_hears 57 = .ok (.getfield 41, 3) := by decide +kernel
theorem dX5_hears_60 : decode cX5_hears 60 = .ok (.aload_n 0, 1) := by decide +kernel
theorem dX5_hears_61 : decode cX5_hears 61 = .ok (.getfield 118, 3) := by decide +kernel
theorem dX5_hears_64 : decode cX5_hears 64 = .ok (.iload_n 2, 1) := by decide +kernel
theorem dX5_hears_65 : decode cX5_hears 65 = .ok (.iastore, 1) := by decide +kernel
theorem dX5_hears_66 : decode cX5_hears 66 = .ok (.aload_n 0, 1) := by decide +kernel
theorem dX5_hears_67 : decode cX5_hears 67 = .ok (.getfield 44, 3) := by decide +kernel
theorem dX5_hears_70 : decode cX5_hears 70 = .ok (.aload_n 0, 1) := by decide +kernel
theorem dX5_hears_71 : decode cX5_hears 71 = .ok (.getfield 118, 3) := by decide +kernel
theorem dX5_hears_74 : decode cX5_hears 74 = .ok (.iload_n 3, 1) := by decide +kernel
theorem dX5_hears_75 : decode cX5_hears 75 = .ok (.iastore, 1) := by decide +kernel
theorem dX5_hears_76 : decode cX5_hears 76 = .ok (.aload_n 0, 1) := by decide +kernel
theorem dX5_hears_77 : decode cX5_hears 77 = .ok (.dup, 1) := by decide +kernel
theorem dX5_hears_78 : decode cX5_hears 78 = .ok (.getfield 118, 3) := by decide +kernel
theorem dX5_hears_81 : decode cX5_hears 81 = .ok (.iconst 1, 1) := by decide +kernel
theorem dX5_hears_82 : decode cX5_hears 82 = .ok (.iadd, 1) := by decide +kernel
theorem dX5_hears_83 : decode cX5_hears 83 = .ok (.putfield 118, 3) := by decide +kernel
theorem dX5_hears_86 : decode cX5_hears 86 = .ok (.aload_n 0, 1) := by decide +kernel
theorem dX5_hears_87 : decode cX5_hears 87 = .ok (.getfield 118, 3) := by decide +kernel
theorem dX5_hears_90 : decode cX5_hears 90 = .ok (.ireturn, 1) := by decide +kernel
theorem dX5_forget_0 : decode cX5_forget 0 = .ok (.aload_n 0, 1) := by decide +kernel
theorem dX5_forget_1 : decode cX5_forget 1 = .ok (.iconst 0, 1) := by decide +kernel
theorem dX5_forget_2 : decode cX5_forget 2 = .ok (.putfield 54, 3) := by decide +kernel
theorem dX5_forget_5 : decode cX5_forget 5 = .ok (.aload_n 0, 1) := by decide +kernel
theorem dX5_forget_6 : decode cX5_forget 6 = .ok (.getfield 118, 3) := by decide +kernel
theorem dX5_forget_9 : decode cX5_forget 9 = .ok (.istore_n 1, 1) := by decide +kernel
theorem dX5_forget_10 : decode cX5_forget 10 = .ok (.aload_n 0, 1) := by decide +kernel
theorem dX5_forget_11 : decode cX5_forget 11 = .ok (.iconst 0, 1) := by decide +kernel
theorem dX5_forget_12 : decode cX5_forget 12 = .ok (.putfield 118, 3) := by decide +kernel
theorem dX5_forget_15 : decode cX5_forget 15 = .ok (.iload_n 1, 1) := by decide +kernel
theorem dX5_forget_16 : decode cX5_forget 16 = .ok (.ireturn, 1) := by decide +kernel
theorem dX5_isAsHeard_0 : decode cX5_isAsHeard 0 = .ok (.iload_n 1, 1) := by decide +kernel
theorem dX5_isAsHeard_1 : decode cX5_isAsHeard 1 = .ok (.bipush 10, 2) := by decide +kernel
theorem dX5_isAsHeard_3 : decode cX5_isAsHeard 3 = .ok (.irem, 1) := by decide +kernel
theorem dX5_isAsHeard_4 : decode cX5_isAsHeard 4 = .ok (.ifCond .le 7, 3) := by decide +kernel
theorem dX5_isAsHeard_7 : decode cX5_isAsHeard 7 = .ok (.iconst 1, 1) := by decide +kernel
theorem dX5_isAsHeard_8 : decode cX5_isAsHeard 8 = .ok (.goto 4, 3) := by decide +kernel
theorem dX5_isAsHeard_11 : decode cX5_isAsHeard 11 = .ok (.iconst 0, 1) := by decide +kernel
theorem dX5_isAsHeard_12 : decode cX5_isAsHeard 12 = .ok (.istore_n 2, 1) := by decide +kernel
theorem dX5_isAsHeard_13 : decode cX5_isAsHeard 13 = .ok (.iconst 0, 1) := by decide +kernel
theorem dX5_isAsHeard_14 : decode cX5_isAsHeard 14 = .ok (.istore_n 3, 1) := by decide +kernel
theorem dX5_isAsHeard_15 : decode cX5_isAsHeard 15 = .ok (.iload_n 3, 1) := by decide +kernel
theorem dX5_isAsHeard_16 : decode cX5_isAsHeard 16 = .ok (.aload_n 0, 1) := by decide +kernel
theorem dX5_isAsHeard_17 : decode cX5_isAsHeard 17 = .ok (.getfield 118, 3) := by decide +kernel
theorem dX5_isAsHeard_20 : decode cX5_isAsHeard 20 = .ok (.if_icmp .ge 59, 3) := by decide +kernel
theorem dX5_isAsHeard_23 : decode cX5_isAsHeard 23 = .ok (.iload_n 2, 1) := by decide +kernel
theorem dX5_isAsHeard_24 : decode cX5_isAsHeard 24 = .ok (.ifCond .eq 55, 3) := by decide +kernel
theorem dX5_isAsHeard_27 : decode cX5_isAsHeard 27 = .ok (.aload_n 0, 1) := by decide +kernel
theorem dX5_isAsHeard_28 : decode cX5_isAsHeard 28 = .ok (.iload_n 1, 1) := by decide +kernel
theorem dX5_isAsHeard_29 : decode cX5_isAsHeard 29 = .ok (.bipush 10, 2) := by decide +kernel
theorem dX5_isAsHeard_31 : decode cX5_isAsHeard 31 = .ok (.idiv, 1) := by decide +kernel
theorem dX5_isAsHeard_32 : decode cX5_isAsHeard 32 = .ok (.iload_n 1, 1) := by decide +kernel
theorem dX5_isAsHeard_33 : decode cX5_isAsHeard 33 = .ok (.bipush 10, 2) := by decide +kernel
theorem dX5_isAsHeard_35 : decode cX5_isAsHeard 35 = .ok (.irem, 1) := by decide +kernel
theorem dX5_isAsHeard_36 : decode cX5_isAsHeard 36 = .ok (.aload_n 0, 1) := by decide +kernel
theorem dX5_isAsHeard_37 : decode cX5_isAsHeard 37 = .ok (.getfield 41, 3) := by decide +kernel
theorem dX5_isAsHeard_40 : decode cX5_isAsHeard 40 = .ok (.iload_n 3, 1) := by decide +kernel
theorem dX5_isAsHeard_41 : decode cX5_isAsHeard 41 = .ok (.iaload, 1) := by decide +kernel
theorem dX5_isAsHeard_42 : decode cX5_isAsHeard 42 = .ok (.invokevirtual 173, 3) := by decide +kernel
theorem dX5_isAsHeard_45 : decode cX5_isAsHeard 45 = .ok (.aload_n 0, 1) := by decide +kernel
theorem dX5_isAsHeard_46 : decode cX5_isAsHeard 46 = .ok (.getfield 132, 3) := by decide +kernel
theorem dX5_isAsHeard_49 : decode cX5_isAsHeard 49 = .ok (.aload_n 0, 1) := by decide +kernel
theorem dX5_isAsHeard_50 : decode cX5_isAsHeard 50 = .ok (.getfield 38, 3) := by decide +kernel
theorem dX5_isAsHeard_53 : decode cX5_isAsHeard 53 = .ok (.iload_n 3, 1) := by decide +kernel
theorem dX5_isAsHeard_54 : decode cX5_isAsHeard 54 = .ok (.iaload, 1) := by decide +kernel
theorem dX5_isAsHeard_55 : decode cX5_isAsHeard 55 = .ok (.ishr, 1) := by decide +kernel
theorem dX5_isAsHeard_56 : decode cX5_isAsHeard 56 = .ok (.iconst 1, 1) := by decide +kernel
theorem dX5_isAsHeard_57 : decode cX5_isAsHeard 57 = .ok (.iand, 1) := by decide +kernel
theorem dX5_isAsHeard_58 : decode cX5_isAsHeard 58 = .ok (.aload_n 0, 1) := by decide +kernel
theorem dX5_isAsHeard_59 : decode cX5_isAsHeard 59 = .ok (.getfield 44, 3) := by decide +kernel
theorem dX5_isAsHeard_62 : decode cX5_isAsHeard 62 = .ok (.iload_n 3, 1) := by decide +kernel
theorem dX5_isAsHeard_63 : decode cX5_isAsHeard 63 = .ok (.iaload, 1) := by decide +kernel
theorem dX5_isAsHeard_64 : decode cX5_isAsHeard 64 = .ok (.if_icmp .ne 7, 3) := by decide +kernel
theorem dX5_isAsHeard_67 : decode cX5_isAsHeard 67 = .ok (.iconst 1, 1) := by decide +kernel
theorem dX5_isAsHeard_68 : decode cX5_isAsHeard 68 = .ok (.goto 4, 3) := by decide +kernel
theorem dX5_isAsHeard_71 : decode cX5_isAsHeard 71 = .ok (.iconst 0, 1) := by decide +kernel
theorem dX5_isAsHeard_72 : decode cX5_isAsHeard 72 = .ok (.istore_n 2, 1) := by decide +kernel
theorem dX5_isAsHeard_73 : decode cX5_isAsHeard 73 = .ok (.iinc 3 1, 3) := by decide +kernel
theorem dX5_isAsHeard_76 : decode cX5_isAsHeard 76 = .ok (.goto (-61), 3) := by decide +kernel
theorem dX5_isAsHeard_79 : decode cX5_isAsHeard 79 = .ok (.iload_n 2, 1) := by decide +kernel
theorem dX5_isAsHeard_80 : decode cX5_isAsHeard 80 = .ok (.ireturn, 1) := by decide +kernel
theorem dX5_gusts_0 : decode cX5_gusts 0 = .ok (.aload_n 0, 1) := by decide +kernel
theorem dX5_gusts_1 : decode cX5_gusts 1 = .ok (.iconst 0, 1) := by decide +kernel
theorem dX5_gusts_2 : decode cX5_gusts 2 = .ok (.putfield 54, 3) := by decide +kernel
theorem dX5_gusts_5 : decode cX5_gusts 5 = .ok (.iload_n 1, 1) := by decide +kernel
theorem dX5_gusts_6 : decode cX5_gusts 6 = .ok (.iconst 0, 1) := by decide +kernel
theorem dX5_gusts_7 : decode cX5_gusts 7 = .ok (.iconst 1, 1) := by decide +kernel
theorem dX5_gusts_8 : decode cX5_gusts 8 = .ok (.invokestatic 57, 3) := by decide +kernel
theorem dX5_gusts_11 : decode cX5_gusts 11 = .ok (.ifCond .ne 5, 3) := by decide +kernel
theorem dX5_gusts_14 : decode cX5_gusts 14 = .ok (.iconst (-1), 1) := by decide +kernel
theorem dX5_gusts_15 : decode cX5_gusts 15 = .ok (.ireturn, 1) := by decide +kernel
theorem dX5_gusts_16 : decode cX5_gusts 16 = .ok (.iconst 0, 1) := by decide +kernel
theorem dX5_gusts_17 : decode cX5_gusts 17 = .ok (.istore_n 2, 1) := by decide +kernel
theorem dX5_gusts_18 : decode cX5_gusts 18 = .ok (.bipush (-9), 2) := by decide +kernel
theorem dX5_gusts_20 : decode cX5_gusts 20 = .ok (.istore_n 3, 1) := by decide +kernel
theorem dX5_gusts_21 : decode cX5_gusts 21 = .ok (.iconst 0, 1) := by decide +kernel
theorem dX5_gusts_22 : decode cX5_gusts 22 = .ok (.istore 4, 2) := by decide +kernel
theorem dX5_gusts_24 : decode cX5_gusts 24 = .ok (.iload 4, 2) := by decide +kernel
theorem dX5_gusts_26 : decode cX5_gusts 26 = .ok (.bipush 10, 2) := by decide +kernel
theorem dX5_gusts_28 : decode cX5_gusts 28 = .ok (.aload_n 0, 1) := by decide +kernel
theorem dX5_gusts_29 : decode cX5_gusts 29 = .ok (.getfield 115, 3) := by decide +kernel
theorem dX5_gusts_32 : decode cX5_gusts 32 = .ok (.imul, 1) := by decide +kernel
theorem dX5_gusts_33 : decode cX5_gusts 33 = .ok (.if_icmp .ge 32, 3) := by decide +kernel
theorem dX5_gusts_36 : decode cX5_gusts 36 = .ok (.aload_n 0, 1) := by decide +kernel
theorem dX5_gusts_37 : decode cX5_gusts 37 = .ok (.iload 4, 2) := by decide +kernel
theorem dX5_gusts_39 : decode cX5_gusts 39 = .ok (.invokevirtual 186, 3) := by decide +kernel
theorem dX5_gusts_42 : decode cX5_gusts 42 = .ok (.ifCond .eq 17, 3) := by decide +kernel
theorem dX5_gusts_45 : decode cX5_gusts 45 = .ok (.iload_n 2, 1) := by decide +kernel
theorem dX5_gusts_46 : decode cX5_gusts 46 = .ok (.ifCond .ne 8, 3) := by decide +kernel
theorem dX5_gusts_49 : decode cX5_gusts 49 = .ok (.iload 4, 2) := by decide +kernel
theorem dX5_gusts_51 : decode cX5_gusts 51 = .ok (.goto 4, 3) := by decide +kernel
theorem dX5_gusts_54 : decode cX5_gusts 54 = .ok (.iload_n 3, 1) := by decide +kernel
theorem dX5_gusts_55 : decode cX5_gusts 55 = .ok (.istore_n 3, 1) := by decide +kernel
theorem dX5_gusts_56 : decode cX5_gusts 56 = .ok (.iinc 2 1, 3) := by decide +kernel
theorem dX5_gusts_59 : decode cX5_gusts 59 = .ok (.iinc 4 1, 3) := by decide +kernel
theorem dX5_gusts_62 : decode cX5_gusts 62 = .ok (.goto (-38), 3) := by decide +kernel
theorem dX5_gusts_65 : decode cX5_gusts 65 = .ok (.iload_n 1, 1) := by decide +kernel
theorem dX5_gusts_66 : decode cX5_gusts 66 = .ok (.ifCond .ne 7, 3) := by decide +kernel
theorem dX5_gusts_69 : decode cX5_gusts 69 = .ok (.iload_n 2, 1) := by decide +kernel
theorem dX5_gusts_70 : decode cX5_gusts 70 = .ok (.goto 4, 3) := by decide +kernel
theorem dX5_gusts_73 : decode cX5_gusts 73 = .ok (.iload_n 3, 1) := by decide +kernel
theorem dX5_gusts_74 : decode cX5_gusts 74 = .ok (.ireturn, 1) := by decide +kernel
theorem dX5_listen_0 : decode cX5_listen 0 = .ok (.aload_n 0, 1) := by decide +kernel
theorem dX5_listen_1 : decode cX5_listen 1 = .ok (.iconst 0, 1) := by decide +kernel
theorem dX5_listen_2 : decode cX5_listen 2 = .ok (.putfield 54, 3) := by decide +kernel
theorem dX5_listen_5 : decode cX5_listen 5 = .ok (.iload_n 1, 1) := by decide +kernel
theorem dX5_listen_6 : decode cX5_listen 6 = .ok (.iconst 0, 1) := by decide +kernel
theorem dX5_listen_7 : decode cX5_listen 7 = .ok (.bipush 20, 2) := by decide +kernel
theorem dX5_listen_9 : decode cX5_listen 9 = .ok (.invokestatic 57, 3) := by decide +kernel
theorem dX5_listen_12 : decode cX5_listen 12 = .ok (.ifCond .ne 5, 3) := by decide +kernel
theorem dX5_listen_15 : decode cX5_listen 15 = .ok (.iconst (-1), 1) := by decide +kernel
theorem dX5_listen_16 : decode cX5_listen 16 = .ok (.ireturn, 1) := by decide +kernel
theorem dX5_listen_17 : decode cX5_listen 17 = .ok (.iconst 0, 1) := by decide +kernel
theorem dX5_listen_18 : decode cX5_listen 18 = .ok (.istore_n 2, 1) := by decide +kernel
theorem dX5_listen_19 : decode cX5_listen 19 = .ok (.iconst 0, 1) := by decide +kernel
theorem dX5_listen_20 : decode cX5_listen 20 = .ok (.istore_n 3, 1) := by decide +kernel
theorem dX5_listen_21 : decode cX5_listen 21 = .ok (.iload_n 3, 1) := by decide +kernel
theorem dX5_listen_22 : decode cX5_listen 22 = .ok (.bipush 8, 2) := by decide +kernel
theorem dX5_listen_24 : decode cX5_listen 24 = .ok (.if_icmp .ge 16, 3) := by decide +kernel
theorem dX5_listen_27 : decode cX5_listen 27 = .ok (.aload_n 0, 1) := by decide +kernel
theorem dX5_listen_28 : decode cX5_listen 28 = .ok (.getfield 47, 3) := by decide +kernel
theorem dX5_listen_31 : decode cX5_listen 31 = .ok (.iload_n 3, 1) := by decide +kernel
theorem dX5_listen_32 : decode cX5_listen 32 = .ok (.iconst 0, 1) := by decide +kernel
theorem dX5_listen_33 : decode cX5_listen 33 = .ok (.iastore, 1) := by decide +kernel
theorem dX5_listen_34 : decode cX5_listen 34 = .ok (.iinc 3 1, 3) := by decide +kernel
theorem dX5_listen_37 : decode cX5_listen 37 = .ok (.goto (-16), 3) := by decide +kernel
theorem dX5_listen_40 : decode cX5_listen 40 = .ok (.iconst 0, 1) := by decide +kernel
theorem dX5_listen_41 : decode cX5_listen 41 = .ok (.istore_n 3, 1) := by decide +kernel
theorem dX5_listen_42 : decode cX5_listen 42 = .ok (.iload_n 3, 1) := by decide +kernel
theorem dX5_listen_43 : decode cX5_listen 43 = .ok (.bipush 10, 2) := by decide +kernel
theorem dX5_listen_45 : decode cX5_listen 45 = .ok (.aload_n 0, 1) := by decide +kernel
theorem dX5_listen_46 : decode cX5_listen 46 = .ok (.getfield 115, 3) := by decide +kernel
theorem dX5_listen_49 : decode cX5_listen 49 = .ok (.imul, 1) := by decide +kernel
theorem dX5_listen_50 : decode cX5_listen 50 = .ok (.if_icmp .ge 70, 3) := by decide +kernel
theorem dX5_listen_53 : decode cX5_listen 53 = .ok (.aload_n 0, 1) := by decide +kernel
theorem dX5_listen_54 : decode cX5_listen 54 = .ok (.iload_n 3, 1) := by decide +kernel
theorem dX5_listen_55 : decode cX5_listen 55 = .ok (.invokevirtual 186, 3) := by decide +kernel
theorem dX5_listen_58 : decode cX5_listen 58 = .ok (.ifCond .eq 56, 3) := by decide +kernel
theorem dX5_listen_61 : decode cX5_listen 61 = .ok (.iinc 2 1, 3) := by decide +kernel
theorem dX5_listen_64 : decode cX5_listen 64 = .ok (.aload_n 0, 1) := by decide +kernel
theorem dX5_listen_65 : decode cX5_listen 65 = .ok (.iload_n 3, 1) := by decide +kernel
theorem dX5_listen_66 : decode cX5_listen 66 = .ok (.bipush 10, 2) := by decide +kernel
theorem dX5_listen_68 : decode cX5_listen 68 = .ok (.idiv, 1) := by decide +kernel
theorem dX5_listen_69 : decode cX5_listen 69 = .ok (.iload_n 3, 1) := by decide +kernel
theorem dX5_listen_70 : decode cX5_listen 70 = .ok (.bipush 10, 2) := by decide +kernel
theorem dX5_listen_72 : decode cX5_listen 72 = .ok (.irem, 1) := by decide +kernel
theorem dX5_listen_73 : decode cX5_listen 73 = .ok (.iload_n 1, 1) := by decide +kernel
theorem dX5_listen_74 : decode cX5_listen 74 = .ok (.invokevirtual 173, 3) := by decide +kernel
theorem dX5_listen_77 : decode cX5_listen 77 = .ok (.iconst 0, 1) := by decide +kernel
theorem dX5_listen_78 : decode cX5_listen 78 = .ok (.istore 4, 2) := by decide +kernel
theorem dX5_listen_80 : decode cX5_listen 80 = .ok (.iload 4, 2) := by decide +kernel
theorem dX5_listen_82 : decode cX5_listen 82 = .ok (.aload_n 0, 1) := by decide +kernel
theorem dX5_listen_83 : decode cX5_listen 83 = .ok (.getfield 115, 3) := by decide +kernel
theorem dX5_listen_86 : decode cX5_listen 86 = .ok (.if_icmp .ge 28, 3) := by decide +kernel
theorem dX5_listen_89 : decode cX5_listen 89 = .ok (.aload_n 0, 1) := by decide +kernel
theorem dX5_listen_90 : decode cX5_listen 90 = .ok (.getfield 47, 3) := by decide +kernel
theorem dX5_listen_93 : decode cX5_listen 93 = .ok (.iload 4, 2) := by decide +kernel
theorem dX5_listen_95 : decode cX5_listen 95 = .ok (.dup2, 1) := by decide +kernel
theorem dX5_listen_96 : decode cX5_listen 96 = .ok (.iaload, 1) := by decide +kernel
theorem dX5_listen_97 : decode cX5_listen 97 = .ok (.aload_n 0, 1) := by decide +kernel
theorem dX5_listen_98 : decode cX5_listen 98 = .ok (.getfield 132, 3) := by decide +kernel
theorem dX5_listen_101 : decode cX5_listen 101 = .ok (.iload 4, 2) := by decide +kernel
theorem dX5_listen_103 : decode cX5_listen 103 = .ok (.ishr, 1) := by decide +kernel
theorem dX5_listen_104 : decode cX5_listen 104 = .ok (.iconst 1, 1) := by decide +kernel
theorem dX5_listen_105 : decode cX5_listen 105 = .ok (.iand, 1) := by decide +kernel
theorem dX5_listen_106 : decode cX5_listen 106 = .ok (.iadd, 1) := by decide +kernel
theorem dX5_listen_107 : decode cX5_listen 107 = .ok (.iastore, 1) := by decide +kernel
theorem dX5_listen_108 : decode cX5_listen 108 = .ok (.iinc 4 1, 3) := by decide +kernel
theorem dX5_listen_111 : decode cX5_listen 111 = .ok (.goto (-31), 3) := by decide +kernel
theorem dX5_listen_114 : decode cX5_listen 114 = .ok (.iinc 3 1, 3) := by decide +kernel
theorem dX5_listen_117 : decode cX5_listen 117 = .ok (.goto (-75), 3) := by decide +kernel
theorem dX5_listen_120 : decode cX5_listen 120 = .ok (.bipush (-9), 2) := by decide +kernel
theorem dX5_listen_122 : decode cX5_listen 122 = .ok (.istore_n 3, 1) := by decide +kernel
theorem dX5_listen_123 : decode cX5_listen 123 = .ok (.bipush 99, 2) := by decide +kernel
theorem dX5_listen_125 : decode cX5_listen 125 = .ok (.istore 4, 2) := by decide +kernel
theorem dX5_listen_127 : decode cX5_listen 127 = .ok (.iconst 0, 1) := by decide +kernel
theorem dX5_listen_128 : decode cX5_listen 128 = .ok (.istore 5, 2) := by decide +kernel
theorem dX5_listen_130 : decode cX5_listen 130 = .ok (.iload 5, 2) := by decide +kernel
theorem dX5_listen_132 : decode cX5_listen 132 = .ok (.aload_n 0, 1) := by decide +kernel
theorem dX5_listen_133 : decode cX5_listen 133 = .ok (.getfield 115, 3) := by decide +kernel
theorem dX5_listen_136 : decode cX5_listen 136 = .ok (.if_icmp .ge 84, 3) := by decide +kernel
theorem dX5_listen_139 : decode cX5_listen 139 = .ok (.iload_n 2, 1) := by decide +kernel
theorem dX5_listen_140 : decode cX5_listen 140 = .ok (.iconst 1, 1) := by decide +kernel
theorem dX5_listen_141 : decode cX5_listen 141 = .ok (.if_icmp .le 79, 3) := by decide +kernel
theorem dX5_listen_144 : decode cX5_listen 144 = .ok (.aload_n 0, 1) := by decide +kernel
theorem dX5_listen_145 : decode cX5_listen 145 = .ok (.getfield 47, 3) := by decide +kernel
theorem dX5_listen_148 : decode cX5_listen 148 = .ok (.iload 5, 2) := by decide +kernel
theorem dX5_listen_150 : decode cX5_listen 150 = .ok (.iaload, 1) := by decide +kernel
theorem dX5_listen_151 : decode cX5_listen 151 = .ok (.iload_n 2, 1) := by decide +kernel
theorem dX5_listen_152 : decode cX5_listen 152 = .ok (.aload_n 0, 1) := by decide +kernel
theorem dX5_listen_153 : decode cX5_listen 153 = .ok (.getfield 47, 3) := by decide +kernel
theorem dX5_listen_156 : decode cX5_listen 156 = .ok (.iload 5, 2) := by decide +kernel
theorem dX5_listen_158 : decode cX5_listen 158 = .ok (.iaload, 1) := by decide +kernel
theorem dX5_listen_159 : decode cX5_listen 159 = .ok (.isub, 1) := by decide +kernel
theorem dX5_listen_160 : decode cX5_listen 160 = .ok (.if_icmp .le 13, 3) := by decide +kernel
theorem dX5_listen_163 : decode cX5_listen 163 = .ok (.aload_n 0, 1) := by decide +kernel
theorem dX5_listen_164 : decode cX5_listen 164 = .ok (.getfield 47, 3) := by decide +kernel
theorem dX5_listen_167 : decode cX5_listen 167 = .ok (.iload 5, 2) := by decide +kernel
theorem dX5_listen_169 : decode cX5_listen 169 = .ok (.iaload, 1) := by decide +kernel
end
section
theorem dX5_listen_170 : decode cX5_listen 170 = .ok (.goto 12, 3) := by decide +kernel
theorem dX5_listen_173 : decode cX5_listen 173 = .ok (.iload_n 2, 1) := by decide +kernel
theorem dX5_listen_174 : decode cX5_listen 174 = .ok (.aload_n 0, 1) := by decide +kernel
theorem dX5_listen_175 : decode cX5_listen 175 = .ok (.getfield 47, 3) := by decide +kernel
theorem dX5_listen_178 : decode cX5_listen 178 = .ok (.iload 5, 2) := by decide +kernel
theorem dX5_listen_180 : decode cX5_listen 180 = .ok (.iaload, 1) := by decide +kernel
theorem dX5_listen_181 : decode cX5_listen 181 = .ok (.isub, 1) := by decide +kernel
theorem dX5_listen_182 : decode cX5_listen 182 = .ok (.istore 6, 2) := by decide +kernel
theorem dX5_listen_184 : decode cX5_listen 184 = .ok (.iload 6, 2) := by decide +kernel
theorem dX5_listen_186 : decode cX5_listen 186 = .ok (.iload 4, 2) := by decide +kernel
theorem dX5_listen_188 : decode cX5_listen 188 = .ok (.if_icmp .ge 8, 3) := by decide +kernel
theorem dX5_listen_191 : decode cX5_listen 191 = .ok (.iload 5, 2) := by decide +kernel
theorem dX5_listen_193 : decode cX5_listen 193 = .ok (.goto 4, 3) := by decide +kernel
theorem dX5_listen_196 : decode cX5_listen 196 = .ok (.iload_n 3, 1) := by decide +kernel
theorem dX5_listen_197 : decode cX5_listen 197 = .ok (.istore_n 3, 1) := by decide +kernel
theorem dX5_listen_198 : decode cX5_listen 198 = .ok (.iload 6, 2) := by decide +kernel
theorem dX5_listen_200 : decode cX5_listen 200 = .ok (.iload 4, 2) := by decide +kernel
theorem dX5_listen_202 : decode cX5_listen 202 = .ok (.if_icmp .ge 8, 3) := by decide +kernel
theorem dX5_listen_205 : decode cX5_listen 205 = .ok (.iload 6, 2) := by decide +kernel
theorem dX5_listen_207 : decode cX5_listen 207 = .ok (.goto 5, 3) := by decide +kernel
theorem dX5_listen_210 : decode cX5_listen 210 = .ok (.iload 4, 2) := by decide +kernel
theorem dX5_listen_212 : decode cX5_listen 212 = .ok (.istore 4, 2) := by decide +kernel
theorem dX5_listen_214 : decode cX5_listen 214 = .ok (.iinc 5 1, 3) := by decide +kernel
theorem dX5_listen_217 : decode cX5_listen 217 = .ok (.goto (-87), 3) := by decide +kernel
theorem dX5_listen_220 : decode cX5_listen 220 = .ok (.iload_n 3, 1) := by decide +kernel
theorem dX5_listen_221 : decode cX5_listen 221 = .ok (.ireturn, 1) := by decide +kernel
theorem dX5_rate_0 : decode cX5_rate 0 = .ok (.aload_n 0, 1) := by decide +kernel
theorem dX5_rate_1 : decode cX5_rate 1 = .ok (.iconst 0, 1) := by decide +kernel
theorem dX5_rate_2 : decode cX5_rate 2 = .ok (.putfield 54, 3) := by decide +kernel
theorem dX5_rate_5 : decode cX5_rate 5 = .ok (.iload_n 1, 1) := by decide +kernel
theorem dX5_rate_6 : decode cX5_rate 6 = .ok (.iconst 0, 1) := by decide +kernel
theorem dX5_rate_7 : decode cX5_rate 7 = .ok (.iconst 5, 1) := by decide +kernel
theorem dX5_rate_8 : decode cX5_rate 8 = .ok (.invokestatic 57, 3) := by decide +kernel
theorem dX5_rate_11 : decode cX5_rate 11 = .ok (.ifCond .eq 11, 3) := by decide +kernel
theorem dX5_rate_14 : decode cX5_rate 14 = .ok (.aload_n 0, 1) := by decide +kernel
theorem dX5_rate_15 : decode cX5_rate 15 = .ok (.iload_n 2, 1) := by decide +kernel
theorem dX5_rate_16 : decode cX5_rate 16 = .ok (.invokevirtual 158, 3) := by decide +kernel
theorem dX5_rate_19 : decode cX5_rate 19 = .ok (.ifCond .ne 6, 3) := by decide +kernel
theorem dX5_rate_22 : decode cX5_rate 22 = .ok (.ldc 189, 2) := by decide +kernel
theorem dX5_rate_24 : decode cX5_rate 24 = .ok (.ireturn, 1) := by decide +kernel
theorem dX5_rate_25 : decode cX5_rate 25 = .ok (.aload_n 0, 1) := by decide +kernel
theorem dX5_rate_26 : decode cX5_rate 26 = .ok (.getfield 13, 3) := by decide +kernel
theorem dX5_rate_29 : decode cX5_rate 29 = .ok (.iload_n 2, 1) := by decide +kernel
theorem dX5_rate_30 : decode cX5_rate 30 = .ok (.iaload, 1) := by decide +kernel
theorem dX5_rate_31 : decode cX5_rate 31 = .ok (.istore_n 3, 1) := by decide +kernel
theorem dX5_rate_32 : decode cX5_rate 32 = .ok (.iload_n 3, 1) := by decide +kernel
theorem dX5_rate_33 : decode cX5_rate 33 = .ok (.aload_n 0, 1) := by decide +kernel
theorem dX5_rate_34 : decode cX5_rate 34 = .ok (.getfield 22, 3) := by decide +kernel
theorem dX5_rate_37 : decode cX5_rate 37 = .ok (.bipush 11, 2) := by decide +kernel
theorem dX5_rate_39 : decode cX5_rate 39 = .ok (.iload_n 2, 1) := by decide +kernel
theorem dX5_rate_40 : decode cX5_rate 40 = .ok (.iadd, 1) := by decide +kernel
theorem dX5_rate_41 : decode cX5_rate 41 = .ok (.iaload, 1) := by decide +kernel
theorem dX5_rate_42 : decode cX5_rate 42 = .ok (.iadd, 1) := by decide +kernel
theorem dX5_rate_43 : decode cX5_rate 43 = .ok (.istore 4, 2) := by decide +kernel
theorem dX5_rate_45 : decode cX5_rate 45 = .ok (.iload_n 3, 1) := by decide +kernel
theorem dX5_rate_46 : decode cX5_rate 46 = .ok (.aload_n 0, 1) := by decide +kernel
theorem dX5_rate_47 : decode cX5_rate 47 = .ok (.getfield 22, 3) := by decide +kernel
theorem dX5_rate_50 : decode cX5_rate 50 = .ok (.iconst 2, 1) := by decide +kernel
theorem dX5_rate_51 : decode cX5_rate 51 = .ok (.iaload, 1) := by decide +kernel
theorem dX5_rate_52 : decode cX5_rate 52 = .ok (.isub, 1) := by decide +kernel
theorem dX5_rate_53 : decode cX5_rate 53 = .ok (.istore 5, 2) := by decide +kernel
theorem dX5_rate_55 : decode cX5_rate 55 = .ok (.aload_n 0, 1) := by decide +kernel
theorem dX5_rate_56 : decode cX5_rate 56 = .ok (.dup, 1) := by decide +kernel
theorem dX5_rate_57 : decode cX5_rate 57 = .ok (.getfield 190, 3) := by decide +kernel
theorem dX5_rate_60 : decode cX5_rate 60 = .ok (.iload_n 1, 1) := by decide +kernel
theorem dX5_rate_61 : decode cX5_rate 61 = .ok (.ifCond .ne 7, 3) := by decide +kernel
theorem dX5_rate_64 : decode cX5_rate 64 = .ok (.lconst 1, 1) := by decide +kernel
theorem dX5_rate_65 : decode cX5_rate 65 = .ok (.goto 50, 3) := by decide +kernel
theorem dX5_rate_68 : decode cX5_rate 68 = .ok (.iload_n 1, 1) := by decide +kernel
theorem dX5_rate_69 : decode cX5_rate 69 = .ok (.iconst 1, 1) := by decide +kernel
theorem dX5_rate_70 : decode cX5_rate 70 = .ok (.if_icmp .ne 9, 3) := by decide +kernel
theorem dX5_rate_73 : decode cX5_rate 73 = .ok (.ldc2_w 194, 3) := by decide +kernel
theorem dX5_rate_76 : decode cX5_rate 76 = .ok (.goto 39, 3) := by decide +kernel
theorem dX5_rate_79 : decode cX5_rate 79 = .ok (.iload_n 1, 1) := by decide +kernel
theorem dX5_rate_80 : decode cX5_rate 80 = .ok (.iconst 2, 1) := by decide +kernel
theorem dX5_rate_81 : decode cX5_rate 81 = .ok (.if_icmp .ne 9, 3) := by decide +kernel
theorem dX5_rate_84 : decode cX5_rate 84 = .ok (.ldc2_w 196, 3) := by decide +kernel
theorem dX5_rate_87 : decode cX5_rate 87 = .ok (.goto 28, 3) := by decide +kernel
theorem dX5_rate_90 : decode cX5_rate 90 = .ok (.iload_n 1, 1) := by decide +kernel
theorem dX5_rate_91 : decode cX5_rate 91 = .ok (.iconst 3, 1) := by decide +kernel
theorem dX5_rate_92 : decode cX5_rate 92 = .ok (.if_icmp .ne 9, 3) := by decide +kernel
theorem dX5_rate_95 : decode cX5_rate 95 = .ok (.ldc2_w 198, 3) := by decide +kernel
theorem dX5_rate_98 : decode cX5_rate 98 = .ok (.goto 17, 3) := by decide +kernel
theorem dX5_rate_101 : decode cX5_rate 101 = .ok (.iload_n 1, 1) := by decide +kernel
theorem dX5_rate_102 : decode cX5_rate 102 = .ok (.iconst 4, 1) := by decide +kernel
theorem dX5_rate_103 : decode cX5_rate 103 = .ok (.if_icmp .ne 9, 3) := by decide +kernel
theorem dX5_rate_106 : decode cX5_rate 106 = .ok (.ldc2_w 200, 3) := by decide +kernel
theorem dX5_rate_109 : decode cX5_rate 109 = .ok (.goto 6, 3) := by decide +kernel
theorem dX5_rate_112 : decode cX5_rate 112 = .ok (.ldc2_w 202, 3) := by decide +kernel
theorem dX5_rate_115 : decode cX5_rate 115 = .ok (.ladd, 1) := by decide +kernel
theorem dX5_rate_116 : decode cX5_rate 116 = .ok (.putfield 190, 3) := by decide +kernel
theorem dX5_rate_119 : decode cX5_rate 119 = .ok (.iload_n 1, 1) := by decide +kernel
theorem dX5_rate_120 : decode cX5_rate 120 = .ok (.ifCond .ne 7, 3) := by decide +kernel
theorem dX5_rate_123 : decode cX5_rate 123 = .ok (.iload_n 3, 1) := by decide +kernel
theorem dX5_rate_124 : decode cX5_rate 124 = .ok (.goto 55, 3) := by decide +kernel
theorem dX5_rate_127 : decode cX5_rate 127 = .ok (.iload_n 1, 1) := by decide +kernel
theorem dX5_rate_128 : decode cX5_rate 128 = .ok (.iconst 1, 1) := by decide +kernel
theorem dX5_rate_129 : decode cX5_rate 129 = .ok (.if_icmp .ne 8, 3) := by decide +kernel
theorem dX5_rate_132 : decode cX5_rate 132 = .ok (.iload 4, 2) := by decide +kernel
theorem dX5_rate_134 : decode cX5_rate 134 = .ok (.goto 45, 3) := by decide +kernel
theorem dX5_rate_137 : decode cX5_rate 137 = .ok (.iload_n 1, 1) := by decide +kernel
theorem dX5_rate_138 : decode cX5_rate 138 = .ok (.iconst 2, 1) := by decide +kernel
theorem dX5_rate_139 : decode cX5_rate 139 = .ok (.if_icmp .ne 8, 3) := by decide +kernel
theorem dX5_rate_142 : decode cX5_rate 142 = .ok (.iload 5, 2) := by decide +kernel
theorem dX5_rate_144 : decode cX5_rate 144 = .ok (.goto 35, 3) := by decide +kernel
theorem dX5_rate_147 : decode cX5_rate 147 = .ok (.iload_n 1, 1) := by decide +kernel
theorem dX5_rate_148 : decode cX5_rate 148 = .ok (.iconst 3, 1) := by decide +kernel
theorem dX5_rate_149 : decode cX5_rate 149 = .ok (.if_icmp .ne 10, 3) := by decide +kernel
theorem dX5_rate_152 : decode cX5_rate 152 = .ok (.iconst 2, 1) := by decide +kernel
theorem dX5_rate_153 : decode cX5_rate 153 = .ok (.iload 4, 2) := by decide +kernel
theorem dX5_rate_155 : decode cX5_rate 155 = .ok (.imul, 1) := by decide +kernel
theorem dX5_rate_156 : decode cX5_rate 156 = .ok (.goto 23, 3) := by decide +kernel
theorem dX5_rate_159 : decode cX5_rate 159 = .ok (.iload_n 1, 1) := by decide +kernel
theorem dX5_rate_160 : decode cX5_rate 160 = .ok (.iconst 4, 1) := by decide +kernel
theorem dX5_rate_161 : decode cX5_rate 161 = .ok (.if_icmp .ne 10, 3) := by decide +kernel
theorem dX5_rate_164 : decode cX5_rate 164 = .ok (.iload 5, 2) := by decide +kernel
theorem dX5_rate_166 : decode cX5_rate 166 = .ok (.iload_n 2, 1) := by decide +kernel
theorem dX5_rate_167 : decode cX5_rate 167 = .ok (.iadd, 1) := by decide +kernel
theorem dX5_rate_168 : decode cX5_rate 168 = .ok (.goto 11, 3) := by decide +kernel
theorem dX5_rate_171 : decode cX5_rate 171 = .ok (.iload_n 3, 1) := by decide +kernel
theorem dX5_rate_172 : decode cX5_rate 172 = .ok (.aload_n 0, 1) := by decide +kernel
theorem dX5_rate_173 : decode cX5_rate 173 = .ok (.getfield 22, 3) := by decide +kernel
theorem dX5_rate_176 : decode cX5_rate 176 = .ok (.iconst 0, 1) := by decide +kernel
theorem dX5_rate_177 : decode cX5_rate 177 = .ok (.iaload, 1) := by decide +kernel
theorem dX5_rate_178 : decode cX5_rate 178 = .ok (.iadd, 1) := by decide +kernel
theorem dX5_rate_179 : decode cX5_rate 179 = .ok (.ireturn, 1) := by decide +kernel
theorem dX5_keep_0 : decode cX5_keep 0 = .ok (.aload_n 0, 1) := by decide +kernel
theorem dX5_keep_1 : decode cX5_keep 1 = .ok (.iconst 0, 1) := by decide +kernel
theorem dX5_keep_2 : decode cX5_keep 2 = .ok (.putfield 54, 3) := by decide +kernel
theorem dX5_keep_5 : decode cX5_keep 5 = .ok (.iload_n 1, 1) := by decide +kernel
theorem dX5_keep_6 : decode cX5_keep 6 = .ok (.iconst 0, 1) := by decide +kernel
theorem dX5_keep_7 : decode cX5_keep 7 = .ok (.iconst 1, 1) := by decide +kernel
theorem dX5_keep_8 : decode cX5_keep 8 = .ok (.invokestatic 57, 3) := by decide +kernel
theorem dX5_keep_11 : decode cX5_keep 11 = .ok (.ifCond .ne 5, 3) := by decide +kernel
theorem dX5_keep_14 : decode cX5_keep 14 = .ok (.iconst (-1), 1) := by decide +kernel
theorem dX5_keep_15 : decode cX5_keep 15 = .ok (.ireturn, 1) := by decide +kernel
theorem dX5_keep_16 : decode cX5_keep 16 = .ok (.iconst 0, 1) := by decide +kernel
theorem dX5_keep_17 : decode cX5_keep 17 = .ok (.istore_n 2, 1) := by decide +kernel
theorem dX5_keep_18 : decode cX5_keep 18 = .ok (.iload_n 2, 1) := by decide +kernel
theorem dX5_keep_19 : decode cX5_keep 19 = .ok (.bipush 19, 2) := by decide +kernel
theorem dX5_keep_21 : decode cX5_keep 21 = .ok (.if_icmp .ge 26, 3) := by decide +kernel
theorem dX5_keep_24 : decode cX5_keep 24 = .ok (.aload_n 0, 1) := by decide +kernel
theorem dX5_keep_25 : decode cX5_keep 25 = .ok (.getfield 28, 3) := by decide +kernel
theorem dX5_keep_28 : decode cX5_keep 28 = .ok (.bipush 19, 2) := by decide +kernel
theorem dX5_keep_30 : decode cX5_keep 30 = .ok (.iload_n 1, 1) := by decide +kernel
theorem dX5_keep_31 : decode cX5_keep 31 = .ok (.imul, 1) := by decide +kernel
theorem dX5_keep_32 : decode cX5_keep 32 = .ok (.iload_n 2, 1) := by decide +kernel
theorem dX5_keep_33 : decode cX5_keep 33 = .ok (.iadd, 1) := by decide +kernel
theorem dX5_keep_34 : decode cX5_keep 34 = .ok (.aload_n 0, 1) := by decide +kernel
theorem dX5_keep_35 : decode cX5_keep 35 = .ok (.getfield 22, 3) := by decide +kernel
theorem dX5_keep_38 : decode cX5_keep 38 = .ok (.iload_n 2, 1) := by decide +kernel
theorem dX5_keep_39 : decode cX5_keep 39 = .ok (.iaload, 1) := by decide +kernel
theorem dX5_keep_40 : decode cX5_keep 40 = .ok (.iastore, 1) := by decide +kernel
theorem dX5_keep_41 : decode cX5_keep 41 = .ok (.iinc 2 1, 3) := by decide +kernel
theorem dX5_keep_44 : decode cX5_keep 44 = .ok (.goto (-26), 3) := by decide +kernel
theorem dX5_keep_47 : decode cX5_keep 47 = .ok (.aload_n 0, 1) := by decide +kernel
theorem dX5_keep_48 : decode cX5_keep 48 = .ok (.getfield 31, 3) := by decide +kernel
theorem dX5_keep_51 : decode cX5_keep 51 = .ok (.iload_n 1, 1) := by decide +kernel
theorem dX5_keep_52 : decode cX5_keep 52 = .ok (.iconst 1, 1) := by decide +kernel
theorem dX5_keep_53 : decode cX5_keep 53 = .ok (.bastore, 1) := by decide +kernel
theorem dX5_keep_54 : decode cX5_keep 54 = .ok (.aload_n 0, 1) := by decide +kernel
theorem dX5_keep_55 : decode cX5_keep 55 = .ok (.getfield 22, 3) := by decide +kernel
theorem dX5_keep_58 : decode cX5_keep 58 = .ok (.iconst 0, 1) := by decide +kernel
theorem dX5_keep_59 : decode cX5_keep 59 = .ok (.iaload, 1) := by decide +kernel
theorem dX5_keep_60 : decode cX5_keep 60 = .ok (.ireturn, 1) := by decide +kernel
theorem dX5_back_0 : decode cX5_back 0 = .ok (.aload_n 0, 1) := by decide +kernel
theorem dX5_back_1 : decode cX5_back 1 = .ok (.iconst 0, 1) := by decide +kernel
theorem dX5_back_2 : decode cX5_back 2 = .ok (.putfield 54, 3) := by decide +kernel
theorem dX5_back_5 : decode cX5_back 5 = .ok (.iload_n 1, 1) := by decide +kernel
theorem dX5_back_6 : decode cX5_back 6 = .ok (.iconst 0, 1) := by decide +kernel
theorem dX5_back_7 : decode cX5_back 7 = .ok (.iconst 1, 1) := by decide +kernel
theorem dX5_back_8 : decode cX5_back 8 = .ok (.invokestatic 57, 3) := by decide +kernel
theorem dX5_back_11 : decode cX5_back 11 = .ok (.ifCond .ne 5, 3) := by decide +kernel
theorem dX5_back_14 : decode cX5_back 14 = .ok (.iconst (-1), 1) := by decide +kernel
theorem dX5_back_15 : decode cX5_back 15 = .ok (.ireturn, 1) := by decide +kernel
theorem dX5_back_16 : decode cX5_back 16 = .ok (.aload_n 0, 1) := by decide +kernel
theorem dX5_back_17 : decode cX5_back 17 = .ok (.getfield 31, 3) := by decide +kernel
theorem dX5_back_20 : decode cX5_back 20 = .ok (.iload_n 1, 1) := by decide +kernel
theorem dX5_back_21 : decode cX5_back 21 = .ok (.baload, 1) := by decide +kernel
theorem dX5_back_22 : decode cX5_back 22 = .ok (.ifCond .ne 6, 3) := by decide +kernel
theorem dX5_back_25 : decode cX5_back 25 = .ok (.bipush (-2), 2) := by decide +kernel
theorem dX5_back_27 : decode cX5_back 27 = .ok (.ireturn, 1) := by decide +kernel
theorem dX5_back_28 : decode cX5_back 28 = .ok (.iconst 0, 1) := by decide +kernel
theorem dX5_back_29 : decode cX5_back 29 = .ok (.istore_n 2, 1) := by decide +kernel
theorem dX5_back_30 : decode cX5_back 30 = .ok (.iload_n 2, 1) := by decide +kernel
theorem dX5_back_31 : decode cX5_back 31 = .ok (.bipush 19, 2) := by decide +kernel
theorem dX5_back_33 : decode cX5_back 33 = .ok (.if_icmp .ge 26, 3) := by decide +kernel
theorem dX5_back_36 : decode cX5_back 36 = .ok (.aload_n 0, 1) := by decide +kernel
theorem dX5_back_37 : decode cX5_back 37 = .ok (.getfield 22, 3) := by decide +kernel
theorem dX5_back_40 : decode cX5_back 40 = .ok (.iload_n 2, 1) := by decide +kernel
theorem dX5_back_41 : decode cX5_back 41 = .ok (.aload_n 0, 1) := by decide +kernel
theorem dX5_back_42 : decode cX5_back 42 = .ok (.getfield 28, 3) := by decide +kernel
theorem dX5_back_45 : decode cX5_back 45 = .ok (.bipush 19, 2) := by decide +kernel
theorem dX5_back_47 : decode cX5_back 47 = .ok (.iload_n 1, 1) := by decide +kernel
theorem dX5_back_48 : decode cX5_back 48 = .ok (.imul, 1) := by decide +kernel
theorem dX5_back_49 : decode cX5_back 49 = .ok (.iload_n 2, 1) := by decide +kernel
theorem dX5_back_50 : decode cX5_back 50 = .ok (.iadd, 1) := by decide +kernel
theorem dX5_back_51 : decode cX5_back 51 = .ok (.iaload, 1) := by decide +kernel
theorem dX5_back_52 : decode cX5_back 52 = .ok (.iastore, 1) := by decide +kernel
theorem dX5_back_53 : decode cX5_back 53 = .ok (.iinc 2 1, 3) := by decide +kernel
theorem dX5_back_56 : decode cX5_back 56 = .ok (.goto (-26), 3) := by decide +kernel
theorem dX5_back_59 : decode cX5_back 59 = .ok (.aload_n 0, 1) := by decide +kernel
theorem dX5_back_60 : decode cX5_back 60 = .ok (.iconst 0, 1) := by decide +kernel
theorem dX5_back_61 : decode cX5_back 61 = .ok (.putfield 121, 3) := by decide +kernel
theorem dX5_back_64 : decode cX5_back 64 = .ok (.aload_n 0, 1) := by decide +kernel
theorem dX5_back_65 : decode cX5_back 65 = .ok (.getfield 22, 3) := by decide +kernel
theorem dX5_back_68 : decode cX5_back 68 = .ok (.iconst 0, 1) := by decide +kernel
theorem dX5_back_69 : decode cX5_back 69 = .ok (.iaload, 1) := by decide +kernel
theorem dX5_back_70 : decode cX5_back 70 = .ok (.ireturn, 1) := by decide +kernel
theorem dX5_count_0 : decode cX5_count 0 = .ok (.aload_n 0, 1) := by decide +kernel
theorem dX5_count_1 : decode cX5_count 1 = .ok (.iconst 0, 1) := by decide +kernel
theorem dX5_count_2 : decode cX5_count 2 = .ok (.putfield 54, 3) := by decide +kernel
theorem dX5_count_5 : decode cX5_count 5 = .ok (.iload_n 1, 1) := by decide +kernel
theorem dX5_count_6 : decode cX5_count 6 = .ok (.ifCond .ne 10, 3) := by decide +kernel
theorem dX5_count_9 : decode cX5_count 9 = .ok (.aload_n 0, 1) := by decide +kernel
theorem dX5_count_10 : decode cX5_count 10 = .ok (.getfield 115, 3) := by decide +kernel
theorem dX5_count_13 : decode cX5_count 13 = .ok (.goto 40, 3) := by decide +kernel
theorem dX5_count_16 : decode cX5_count 16 = .ok (.iload_n 1, 1) := by decide +kernel
theorem dX5_count_17 : decode cX5_count 17 = .ok (.iconst 1, 1) := by decide +kernel
theorem dX5_count_18 : decode cX5_count 18 = .ok (.if_icmp .ne 10, 3) := by decide +kernel
theorem dX5_count_21 : decode cX5_count 21 = .ok (.aload_n 0, 1) := by decide +kernel
theorem dX5_count_22 : decode cX5_count 22 = .ok (.getfield 50, 3) := by decide +kernel
theorem dX5_count_25 : decode cX5_count 25 = .ok (.goto 28, 3) := by decide +kernel
theorem dX5_count_28 : decode cX5_count 28 = .ok (.iload_n 1, 1) := by decide +kernel
theorem dX5_count_29 : decode cX5_count 29 = .ok (.iconst 2, 1) := by decide +kernel
theorem dX5_count_30 : decode cX5_count 30 = .ok (.if_icmp .ne 10, 3) := by decide +kernel
theorem dX5_count_33 : decode cX5_count 33 = .ok (.aload_n 0, 1) := by decide +kernel
theorem dX5_count_34 : decode cX5_count 34 = .ok (.getfield 118, 3) := by decide +kernel
theorem dX5_count_37 : decode cX5_count 37 = .ok (.goto 16, 3) := by decide +kernel
theorem dX5_count_40 : decode cX5_count 40 = .ok (.iload_n 1, 1) := by decide +kernel
theorem dX5_count_41 : decode cX5_count 41 = .ok (.iconst 3, 1) := by decide +kernel
theorem dX5_count_42 : decode cX5_count 42 = .ok (.if_icmp .ne 10, 3) := by decide +kernel
theorem dX5_count_45 : decode cX5_count 45 = .ok (.aload_n 0, 1) := by decide +kernel
theorem dX5_count_46 : decode cX5_count 46 = .ok (.getfield 61, 3) := by decide +kernel
theorem dX5_count_49 : decode cX5_count 49 = .ok (.goto 4, 3) := by decide +kernel
theorem dX5_count_52 : decode cX5_count 52 = .ok (.iconst (-1), 1) := by decide +kernel
theorem dX5_count_53 : decode cX5_count 53 = .ok (.ireturn, 1) := by decide +kernel
theorem dX5_trace_0 : decode cX5_trace 0 = .ok (.aload_n 0, 1) := by decide +kernel
theorem dX5_trace_1 : decode cX5_trace 1 = .ok (.iconst 0, 1) := by decide +kernel
theorem dX5_trace_2 : decode cX5_trace 2 = .ok (.putfield 54, 3) := by decide +kernel
theorem dX5_trace_5 : decode cX5_trace 5 = .ok (.aload_n 0, 1) := by decide +kernel
theorem dX5_trace_6 : decode cX5_trace 6 = .ok (.getfield 190, 3) := by decide +kernel
theorem dX5_trace_9 : decode cX5_trace 9 = .ok (.lreturn, 1) := by decide +kernel
end
section
/-! ===== a small machine over virtual worlds: cells by number, ints in one memory; its steps are sound for the JVM's ===== -/
abbrev jw_W : Type := (Nat × Nat) × (Nat → Nat × Nat × (Nat → Option Nat)) × (Nat → Nat → Int32) × (Nat → Nat → Int64)
abbrev jo_R : Type := Option Value × jw_W
abbrev jo_O : Type := (Nat × List Value × List Value × jw_W) ⊕ jo_R
abbrev jo_P : Type := List Value → List Value → jw_W → Option jo_O
def jw_nf (ci : Nat) : Nat := match ci with
  | 0 => 5
  | 1 => 6
  | 2 => 5
  | 3 => 7
  | 4 => 15
  | 5 => 30
  | _ => 0
def jw_ty (ci : Nat) : Nat → FieldType := match ci with
  | 0 => tyX0
  | 1 => tyX1
  | 2 => tyX2
  | 3 => tyX3
  | 4 => tyX4
  | _ => tyX5
def jw_ft (ci j : Nat) : Nat := match jw_ty ci j with
  | .int => 0
  | .boolean => 0
  | .long => 1
  | _ => 2
def jw_rn (as : Nat → Nat) (v : Value) : Value := match v with
  | .ref k => .ref (as k)
  | v => v
def jw_fv (as : Nat → Nat) (w : jw_W) (k ci j : Nat) : Value := match jw_ft ci j with
  | 0 => .int (w.2.2.1 k j)
  | 1 => .long (w.2.2.2 k j)
  | _ => va_rf (((w.2.1 k).2.2 j).map as)
def jw_cg (cs : Nat → ClassId) (as : Nat → Nat) (w : jw_W) (k t : Nat) : va_E := match t with
  | 0 => .inl (cs 0, (w.2.1 k).2.1, .inl (w.2.2.1 k))
  | 1 => .inl (cs 1, (w.2.1 k).2.1, .inl (w.2.2.1 k))
  | 2 => .inl (cs 2, (w.2.1 k).2.1, .inr (.inr (.inr (.inr (fun i => ((w.2.1 k).2.2 i).map as)))))
  | ci + 3 => .inr (ci, (List.range (jw_nf ci)).map (jw_fv as w k ci))
def jw_ce (cs : Nat → ClassId) (as : Nat → Nat) (w : jw_W) (k : Nat) : va_E := jw_cg cs as w k (w.2.1 k).1
def jw_wl (cs : Nat → ClassId) (as : Nat → Nat) (w : jw_W) : va_W := (List.range w.1.1).map (fun k => (as k, jw_ce cs as w k))
abbrev jw_tys (cs : Nat → ClassId) : List (ClassId × FieldType) := [(cs 0, .int), (cs 1, .boolean), (cs 2, .object "RodChimes$Moment")]
def jw_WF (w : jw_W) : Prop := ∀ k, k < w.1.1 → ∀ j r, (w.2.1 k).2.2 j = some r → r < w.1.1
def jw_mi (w : jw_W) (k j : Nat) (x : Int32) : jw_W := (w.1, w.2.1, (fun k' => if k' = k then upd (w.2.2.1 k) j x else w.2.2.1 k'), w.2.2.2)
def jw_ml (w : jw_W) (k j : Nat) (x : Int64) : jw_W := (w.1, w.2.1, w.2.2.1, fun k' => if k' = k then vp_updL (w.2.2.2 k) j x else w.2.2.2 k')
def jw_mr (w : jw_W) (k j r : Nat) : jw_W := (w.1, (fun k' => if k' = k then ((w.2.1 k).1, (w.2.1 k).2.1, va_up (w.2.1 k).2.2 j (some r)) else w.2.1 k'), w.2.2.1, w.2.2.2)
def jw_nw (w : jw_W) (t n sl : Nat) : jw_W := ((w.1.1 + 1, w.1.2 + sl), (fun k' => if k' = w.1.1 then (t, n, fun _ => none) else w.2.1 k'), (fun k' => if k' = w.1.1 then (fun _ => 0) else w.2.2.1 k'), (fun k' => if k' = w.1.1 then (fun _ => 0) else w.2.2.2 k'))
/-- a value that stays the same when a new cell gets its address: n cells so far, place 1000 is the law's script -/
def jw_ok (n : Nat) (v : Value) : Bool := match v with
  | .ref r => Nat.blt r n || Nat.beq r 1000
  | _ => true
theorem jw_at {cs : Nat → ClassId} {as : Nat → Nat} {w : jw_W} {k : Nat} (h : k < w.1.1) : (jw_wl cs as w)[k]? = some (as k, jw_ce cs as w k) := by
  simp [jw_wl, h]
theorem jw_set {cs : Nat → ClassId} {as : Nat → Nat} {w w' : jw_W} {k : Nat} {e : va_E} (hc : w'.1.1 = w.1.1) (hk : jw_ce cs as w' k = e) (ho : ∀ i, i ≠ k → jw_ce cs as w' i = jw_ce cs as w i) : (jw_wl cs as w).set k (as k, e) = jw_wl cs as w' := by
  apply List.ext_getElem?
  intro i
  by_cases hi : i < w.1.1
  · by_cases hik : i = k
    · subst hik
      rw [List.getElem?_set_self (by simp [jw_wl, hi]), jw_at (by rw [hc]; exact hi), hk]
    · rw [List.getElem?_set_ne (Ne.symm hik), jw_at hi, jw_at (by rw [hc]; exact hi), ho i hik]
  · rw [List.getElem?_eq_none (by simp [jw_wl]; omega), List.getElem?_eq_none (by simp [jw_wl, hc]; omega)]
theorem jw_rn_cat (as : Nat → Nat) (v : Value) : (jw_rn as v).category = v.category := by
  cases v <;> rfl
theorem jw_rn_ok {as as' : Nat → Nat} {n n' : Nat} (h : ∀ k, k < n ∨ n' ≤ k → as' k = as k) (hn : n' ≤ 1000) {v : Value} (hv : jw_ok n v = true) : jw_rn as' v = jw_rn as v := by
  cases v with
  | ref r =>
    simp only [jw_ok, Bool.or_eq_true] at hv
    show Value.ref (as' r) = Value.ref (as r)
    rcases hv with hv | hv
    · rw [h r (Or.inl (Nat.blt_eq.mp hv))]
    · have e : r = 1000 := Nat.eq_of_beq_eq_true hv
      rw [h r (Or.inr (e ▸ hn))]
  | _ => rfl
/-! the context of a run, and what is to be shown at a place -/
def jw_Z (D : va_G) (cs : Nat → ClassId) (as : Nat → Nat) (w : jw_W) (A : Nat → Prop) (H0 H : Heap) (locs : List Loc) : Prop := va_P D vwCl (jw_wl cs as w) H ∧ va_D A (jw_wl cs as w) ∧ va_S A H0 H locs ∧ jw_WF w
/-- words of the tables that are no 'good' words: they go with the state -/
def jw_isN : Cond → Bool
  | .fieldLinkNest .. => true
  | .methodLinkNest .. => true
  | _ => false
def jw_N (U : State) : Prop := (∀ w ∈ lw_tbl, jw_isN w = true → va_Nw w U) ∧ va_AO "RodChimes$Moment" U
theorem jw_N.warm {s U : State} (hW : s.WarmedH U.vm) (h : jw_N s) : jw_N U := by
  refine ⟨fun w hw hn => ?_, va_AO.moved hW.alike h.2⟩
  have h1 := h.1 w hw hn
  cases w <;> first | exact va_Nw.warmF hW h1 | exact va_Nw.warmM hW h1 | (simp [jw_isN] at hn; done)
def jw_U (D : va_G) (cs : Nat → ClassId) (as : Nat → Nat) (w : jw_W) (A : Nat → Prop) (U : State) : Prop := va_P D vwCl (jw_wl cs as w) U.heap ∧ va_D A (jw_wl cs as w) ∧ jw_WF w
def jw_V (D : va_G) (cs : Nat → ClassId) (as : Nat → Nat) (w : jw_W) (U : State) : Prop := va_K D vwCl (jw_tys cs) U ∧ jw_N U ∧ jw_U D cs as w (fun _ => True) U
def jw_E (as0 : Nat → Nat) (w0 : jw_W) (as : Nat → Nat) (w : jw_W) : Prop := (∀ k, k < w0.1.1 ∨ w.1.1 ≤ k → as k = as0 k) ∧ w0.1.1 ≤ w.1.1 ∧ w0.1.2 ≤ w.1.2
def jw_Lo (as : Nat → Nat) (nL : Nat) (la : Array Slot) (ls : List Value) : Prop := la.size = nL ∧ lv_wf la ∧ ls.length ≤ nL ∧ (∀ (i : Nat) (v : Value), ls[i]? = some v → v.category = 1) ∧ ∀ (i : Nat) (v : Value), ls[i]? = some v → v ≠ .null → la[i]? = some (.val (jw_rn as v))
def jc_C (own : String) (cc : ByteArray) (nL : Nat) (ret : Option FieldType) (ini : Bool) (D : va_G) (cs : Nat → ClassId) (Ts : List Cond) (A : Nat → Prop) (p : Program) (s : State) (m : MethodId) (args : Array Value) (meth : Method) (c : Code) : Prop :=
  p.tables.exec = Jvm.exec ∧ c.code = cc ∧ c.maxLocals = nL ∧ s.vm.findClass own = some m.cls ∧ (∀ w ∈ Ts, w.before args s = true) ∧ meth.sig.returnType = ret ∧ meth.locks = false ∧ (ini = true → meth.name = "<init>") ∧ va_K D vwCl (jw_tys cs) s ∧ jw_N s ∧ ∀ q, s.heap.size ≤ q → A q
def jc_G (D : va_G) (cs : Nat → ClassId) (A : Nat → Prop) (as0 : Nat → Nat) (w0 : jw_W) (nL : Nat) (p : Program) (l : Launch) (e : Env) (R : Room) (s : State) (m : MethodId) (args : Array Value) (below : List Frame) (meth : Method) (c : Code) (Q : State → Prop) (pc : Nat) (ls st : List Value) (w : jw_W) : Prop :=
  ∀ (as : Nat → Nat) (H : Heap) (locs : List Loc) (la : Array Slot), jw_Z D cs as w A s.heap H locs → jw_E as0 w0 as w → jw_Lo as nL la ls → W p l e R s m args below meth c H locs (w.1.1 - w0.1.1) (w.1.2 - w0.1.2) Q (F0 m pc la (st.map (jw_rn as)))
def jc_Q (D : va_G) (cs : Nat → ClassId) (as : Nat → Nat) (w : jw_W) (A : Nat → Prop) (r : Option Value) (w' : jw_W) : Array Value → State → Outcome → State → Prop := fun _ st oc t => (∃ as', jw_E as w as' w' ∧ oc = .returned (r.map (jw_rn as')) ∧ jw_U D cs as' w' A t) ∧ va_F A st t
def jc_S (own : String) (cc : ByteArray) (nL : Nat) (ret : Option FieldType) (ini : Bool) (Ts : List Cond) (fr lo : Nat) (l : Launch) (pc : Nat) (op : jo_P) : Prop :=
  ∀ (D : va_G) (cs : Nat → ClassId) (A : Nat → Prop) (as0 : Nat → Nat) (w0 : jw_W) (p : Program) (e : Env) (R : Room) (s : State) (m : MethodId) (args : Array Value) (below : List Frame) (meth : Method) (c : Code) (Q : State → Prop), jc_C own cc nL ret ini D cs Ts A p s m args meth c → fr ≤ R.frames → lo ≤ R.locals → ∀ (ls st : List Value) (w : jw_W) (pc' : Nat) (ls' st' : List Value) (w' : jw_W), op ls st w = some (.inl (pc', ls', st', w')) →
    (w.1.1 ≤ w'.1.1 ∧ w.1.2 ≤ w'.1.2) ∧ (w'.1.1 - w0.1.1 ≤ R.cells → w'.1.2 - w0.1.2 ≤ R.slots → jc_G D cs A as0 w0 nL p l e R s m args below meth c Q pc' ls' st' w' → jc_G D cs A as0 w0 nL p l e R s m args below meth c Q pc ls st w)
def jc_T (own : String) (cc : ByteArray) (nL : Nat) (ret : Option FieldType) (ini : Bool) (Ts : List Cond) (l : Launch) (pc : Nat) (op : jo_P) : Prop :=
  ∀ (D : va_G) (cs : Nat → ClassId) (A : Nat → Prop) (as0 : Nat → Nat) (w0 : jw_W) (p : Program) (e : Env) (R : Room) (s : State) (m : MethodId) (args : Array Value) (below : List Frame) (meth : Method) (c : Code), jc_C own cc nL ret ini D cs Ts A p s m args meth c → ∀ (ls st : List Value) (w : jw_W) (r : Option Value) (w' : jw_W), op ls st w = some (.inr (r, w')) →
    w' = w ∧ jc_G D cs A as0 w0 nL p l e R s m args below meth c (MQ below (jc_Q D cs as0 w0 A r w) args s (w.1.1 - w0.1.1) (w.1.2 - w0.1.2) A) pc ls st w
def jc_B (own : String) (cc : ByteArray) (nL : Nat) (ret : Option FieldType) (ini : Bool) (Ts : List Cond) (fr lo : Nat) (l : Launch) (pc : Nat) (op : jo_P) : Prop := jc_S own cc nL ret ini Ts fr lo l pc op ∧ jc_T own cc nL ret ini Ts l pc op
/-! the machine -/
def jr_run (P : Nat → jo_P) : Nat → Nat → List Value → List Value → jw_W → Option jo_R
  | 0, _, _, _, _ => none
  | n + 1, pc, ls, st, w => match P pc ls st w with
    | none => none
    | some (.inl (pc', ls', st', w')) => jr_run P n pc' ls' st' w'
    | some (.inr r) => some r
theorem jr_mono {P : Nat → jo_P} : ∀ (n : Nat) (pc : Nat) (ls st : List Value) (w : jw_W) (r : jo_R), jr_run P n pc ls st w = some r → ∀ k, jr_run P (n + k) pc ls st w = some r
  | 0, _, _, _, _, _, h, _ => by cases h
  | n + 1, pc, ls, st, w, r, h, k => by
    rw [Nat.succ_add]
    simp only [jr_run] at h ⊢
    split at h
    · cases h
    · exact jr_mono n _ _ _ _ _ h k
    · exact h
theorem jr_det {P : Nat → jo_P} {n k pc : Nat} {ls st : List Value} {w : jw_W} {r r' : jo_R} (h : jr_run P n pc ls st w = some r) (h' : jr_run P k pc ls st w = some r') : r = r' := by
  have h1 := jr_mono n pc ls st w r h k
  have h2 := jr_mono k pc ls st w r' h' n
  rw [Nat.add_comm] at h2
  exact Option.some.inj (h1.symm.trans h2)
noncomputable def jr_ev (P : Nat → jo_P) (pc : Nat) (ls st : List Value) (w : jw_W) : Option jo_R := Classical.epsilon (fun o => ∀ r, o = some r ↔ ∃ n, jr_run P n pc ls st w = some r)
theorem jr_iff {P : Nat → jo_P} {pc : Nat} {ls st : List Value} {w : jw_W} (r : jo_R) : jr_ev P pc ls st w = some r ↔ ∃ n, jr_run P n pc ls st w = some r := by
  have h : ∃ o : Option jo_R, ∀ r, o = some r ↔ ∃ n, jr_run P n pc ls st w = some r := by
    by_cases hx : ∃ r n, jr_run P n pc ls st w = some r
    · obtain ⟨r, n, hr⟩ := hx
      exact ⟨some r, fun r' => ⟨fun e => ⟨n, (by rw [hr]; exact e)⟩, fun ⟨k, hk⟩ => congrArg some (jr_det hr hk)⟩⟩
    · exact ⟨none, fun r' => ⟨fun e => (by cases e), fun ⟨k, hk⟩ => absurd ⟨r', k, hk⟩ hx⟩⟩
  exact Classical.epsilon_spec h r
theorem jr_step {P : Nat → jo_P} {pc : Nat} {ls st : List Value} {w : jw_W} {pc' : Nat} {ls' st' : List Value} {w' : jw_W} (h : P pc ls st w = some (.inl (pc', ls', st', w'))) : jr_ev P pc ls st w = jr_ev P pc' ls' st' w' := by
  apply Option.ext
  intro r
  rw [jr_iff, jr_iff]
  constructor
  · intro ⟨n, hn⟩
    cases n with
    | zero => cases hn
    | succ n => simp only [jr_run, h] at hn; exact ⟨n, hn⟩
  · intro ⟨n, hn⟩
    exact ⟨n + 1, by simp only [jr_run, h]; exact hn⟩
theorem jr_ret {P : Nat → jo_P} {pc : Nat} {ls st : List Value} {w : jw_W} {r : jo_R} (h : P pc ls st w = some (.inr r)) : jr_ev P pc ls st w = some r := by
  rw [jr_iff]
  exact ⟨1, by simp only [jr_run, h]⟩
theorem jr_none {P : Nat → jo_P} {pc : Nat} {ls st : List Value} {w : jw_W} (h : P pc ls st w = none) : jr_ev P pc ls st w = none := by
  apply Option.ext
  intro r
  rw [jr_iff]
  constructor
  · intro ⟨n, hn⟩
    cases n with
    | zero => cases hn
    | succ n => simp only [jr_run, h] at hn; cases hn
  · intro e; cases e
def jo_at : List (Nat × jo_P) → Nat → jo_P
  | [], _ => fun _ _ _ => none
  | q :: L, pc => if pc = q.1 then q.2 else jo_at L pc
theorem jo_at_all {L : List (Nat × jo_P)} {F : Nat → jo_P → Prop} (h : ∀ q ∈ L, F q.1 q.2) (h0 : ∀ pc, F pc (fun _ _ _ => none)) (pc : Nat) : F pc (jo_at L pc) := by
  induction L with
  | nil => exact h0 pc
  | cons q L ih =>
    unfold jo_at
    split
    · rename_i e; subst e; exact h q List.mem_cons_self
    · exact ih (fun q hq => h q (List.mem_cons_of_mem _ hq))
section RUN
variable {own : String} {cc : ByteArray} {nL : Nat} {ret : Option FieldType} {ini : Bool} {Ts : List Cond} {fr lo : Nat} {l : Launch}
theorem jc_B_none (pc : Nat) : jc_B own cc nL ret ini Ts fr lo l pc (fun _ _ _ => none) :=
  ⟨fun _ _ _ _ _ _ _ _ _ _ _ _ _ _ _ _ _ _ _ _ _ _ _ _ _ h => (by cases h), fun _ _ _ _ _ _ _ _ _ _ _ _ _ _ _ _ _ _ _ _ h => by cases h⟩
theorem jc_run {P : Nat → jo_P} (hB : ∀ pc, jc_B own cc nL ret ini Ts fr lo l pc (P pc)) {D : va_G} {cs : Nat → ClassId} {A : Nat → Prop} {as0 : Nat → Nat} {w0 : jw_W} {p : Program} {e : Env} {R : Room} {s : State} {m : MethodId} {args : Array Value} {below : List Frame} {meth : Method} {c : Code} (hC : jc_C own cc nL ret ini D cs Ts A p s m args meth c) (hfr : fr ≤ R.frames) (hlo : lo ≤ R.locals) :
    ∀ (n pc : Nat) (ls st : List Value) (w : jw_W) (r : Option Value) (w' : jw_W), jr_run P n pc ls st w = some (r, w') → (w.1.1 ≤ w'.1.1 ∧ w.1.2 ≤ w'.1.2) ∧ (w'.1.1 - w0.1.1 ≤ R.cells → w'.1.2 - w0.1.2 ≤ R.slots → jc_G D cs A as0 w0 nL p l e R s m args below meth c (MQ below (jc_Q D cs as0 w0 A r w') args s (w'.1.1 - w0.1.1) (w'.1.2 - w0.1.2) A) pc ls st w)
  | 0, _, _, _, _, _, _, h => by cases h
  | n + 1, pc, ls, st, w, r, w', h => by
    simp only [jr_run] at h
    split at h
    · cases h
    · rename_i pc1 ls1 st1 w1 he
      have ih := jc_run hB (as0 := as0) (w0 := w0) (e := e) (below := below) hC hfr hlo n pc1 ls1 st1 w1 r w' h
      have h1 := (hB pc).1 D cs A as0 w0 p e R s m args below meth c (MQ below (jc_Q D cs as0 w0 A r w') args s (w'.1.1 - w0.1.1) (w'.1.2 - w0.1.2) A) hC hfr hlo ls st w pc1 ls1 st1 w1 he
      exact ⟨⟨Nat.le_trans h1.1.1 ih.1.1, Nat.le_trans h1.1.2 ih.1.2⟩, fun hc hs => h1.2 (Nat.le_trans (Nat.sub_le_sub_right ih.1.1 _) hc) (Nat.le_trans (Nat.sub_le_sub_right ih.1.2 _) hs) (ih.2 hc hs)⟩
    · rename_i r0 he
      cases h
      have h1 := (hB pc).2 D cs A as0 w0 p e R s m args below meth c hC ls st w r w' he
      obtain ⟨rfl, hg⟩ := h1
      exact ⟨⟨Nat.le_refl _, Nat.le_refl _⟩, fun _ _ => hg⟩
end RUN
end
section
/-! ===== the instructions of the small machine, and that each is sound ===== -/
def jo_k (v : Value) (n : Nat) : jo_P := fun ls st w => some (.inl (n, ls, v :: st, w))
def jo_ild (k n : Nat) : jo_P := fun ls st w => match ls[k]? with
  | some (.int x) => some (.inl (n, ls, .int x :: st, w))
  | _ => none
def jo_rld (k n : Nat) : jo_P := fun ls st w => match ls[k]? with
  | some (.ref x) => some (.inl (n, ls, .ref x :: st, w))
  | _ => none
def jo_ist (k n : Nat) : jo_P := fun ls st w => match st with
  | .int x :: st' => if k < ls.length then some (.inl (n, ls.set k (.int x), st', w)) else none
  | _ => none
def jo_rst (k n : Nat) : jo_P := fun ls st w => match st with
  | .ref x :: st' => if k < ls.length then some (.inl (n, ls.set k (.ref x), st', w)) else none
  | _ => none
def jo_inc (k : Nat) (v : Int32) (n : Nat) : jo_P := fun ls st w => match ls[k]? with
  | some (.int x) => some (.inl (n, ls.set k (.int (x + v)), st, w))
  | _ => none
def jo_bin (f : Int32 → Int32 → Int32) (n : Nat) : jo_P := fun ls st w => match st with
  | .int y :: .int x :: st' => some (.inl (n, ls, .int (f x y) :: st', w))
  | _ => none
def jo_dv (f : Int32 → Int32 → Int32) (n : Nat) : jo_P := fun ls st w => match st with
  | .int y :: .int x :: st' => if y = 0 then none else some (.inl (n, ls, .int (f x y) :: st', w))
  | _ => none
def jo_neg (n : Nat) : jo_P := fun ls st w => match st with
  | .int x :: st' => some (.inl (n, ls, .int (-x) :: st', w))
  | _ => none
def jo_ladd (n : Nat) : jo_P := fun ls st w => match st with
  | .long y :: .long x :: st' => some (.inl (n, ls, .long (x + y) :: st', w))
  | _ => none
def jo_lcmp (n : Nat) : jo_P := fun ls st w => match st with
  | .long y :: .long x :: st' => some (.inl (n, ls, .int (lg_cmp x y) :: st', w))
  | _ => none
def jo_dup (n : Nat) : jo_P := fun ls st w => match st with
  | .int x :: st' => some (.inl (n, ls, .int x :: .int x :: st', w))
  | .ref x :: st' => some (.inl (n, ls, .ref x :: .ref x :: st', w))
  | _ => none
def jo_dup2 (n : Nat) : jo_P := fun ls st w => match st with
  | .int x :: .ref y :: st' => some (.inl (n, ls, .int x :: .ref y :: .int x :: .ref y :: st', w))
  | _ => none
def jo_pop (n : Nat) : jo_P := fun ls st w => match st with
  | .int _ :: st' => some (.inl (n, ls, st', w))
  | _ => none
def jo_go (n : Nat) : jo_P := fun ls st w => some (.inl (n, ls, st, w))
def jo_if (f : Int32 → Bool) (t n : Nat) : jo_P := fun ls st w => match st with
  | .int x :: st' => some (.inl (if f x = true then t else n, ls, st', w))
  | _ => none
def jo_ic (f : Int32 → Int32 → Bool) (t n : Nat) : jo_P := fun ls st w => match st with
  | .int y :: .int x :: st' => some (.inl (if f x y = true then t else n, ls, st', w))
  | _ => none
/-- a table switch: its lowest number, its targets, the other one -/
def jo_ts (lo : Int) (ts : List Nat) (d : Nat) : jo_P := fun ls st w => match st with
  | .int x :: st' => some (.inl (if x.toInt < lo then d else (ts[(x.toInt - lo).toNat]?).getD d, ls, st', w))
  | _ => none
/-- Math.max, min -/
def jo_max (n : Nat) : jo_P := fun ls st w => match st with
  | .int y :: .int x :: st' => if st'.length ≤ 4 then some (.inl (n, ls, .int (if x < y then y else x) :: st', w)) else none
  | _ => none
def jo_min (n : Nat) : jo_P := fun ls st w => match st with
  | .int y :: .int x :: st' => if st'.length ≤ 4 then some (.inl (n, ls, .int (if y < x then y else x) :: st', w)) else none
  | _ => none
def jo_oin (n : Nat) : jo_P := fun ls st w => match st with
  | .ref _ :: st' => if st'.length ≤ 4 then some (.inl (n, ls, st', w)) else none
  | _ => none
def jo_ret : jo_P := fun _ st w => match st with
  | [] => some (.inr (none, w))
  | _ => none
def jo_iret : jo_P := fun _ st w => match st with
  | [.int x] => some (.inr (some (.int x), w))
  | _ => none
def jo_zret : jo_P := fun _ st w => match st with
  | [.int x] => if narrow .boolean (.int x) = .int x then some (.inr (some (.int x), w)) else none
  | _ => none
def jo_lret : jo_P := fun _ st w => match st with
  | [.long x] => some (.inr (some (.long x), w))
  | _ => none
theorem jw_sum {as : Nat → Nat} : ∀ (st : List Value), ((st.map (jw_rn as)).map fun v => v.category).sum ≤ 2 * st.length
  | [] => Nat.le_refl _
  | v :: st => by
    have h := jw_sum (as := as) st
    have h2 : (jw_rn as v).category ≤ 2 := by rw [jw_rn_cat]; cases v <;> exact Nat.le_of_ble_eq_true rfl
    simp only [List.map_cons, List.sum_cons, List.length_cons]
    omega
def jw_lv (as : Nat → Nat) (ls : List Value) : List (Nat × Value) := (List.range ls.length).filterMap (fun i => (ls[i]?).bind (fun v => if v = Value.null then none else some (i, jw_rn as v)))
theorem jw_lv_mem {as : Nat → Nat} {ls : List Value} {i : Nat} {v : Value} (h : ls[i]? = some v) (hn : v ≠ Value.null) : (i, jw_rn as v) ∈ jw_lv as ls := by
  refine List.mem_filterMap.mpr ⟨i, List.mem_range.mpr (List.getElem?_eq_some_iff.mp h).1, ?_⟩
  rw [h, Option.bind_some, if_neg hn]
theorem jw_Lo.has {as : Nat → Nat} {nL : Nat} {la : Array Slot} {ls : List Value} (h : jw_Lo as nL la ls) : lv_has la nL (jw_lv as ls) := by
  refine ⟨h.1, h.2.1, fun q hq => ?_⟩
  obtain ⟨i, -, hi⟩ := List.mem_filterMap.mp hq
  obtain ⟨v, hv, hi⟩ := Option.bind_eq_some_iff.mp hi
  split at hi
  · cases hi
  · rename_i hn
    cases hi
    exact h.2.2.2.2 i v hv hn
theorem jw_Lo.store {as : Nat → Nat} {nL k : Nat} {la la' : Array Slot} {ls : List Value} {x : Value} (h : jw_Lo as nL la ls) (hk : k < ls.length) (hx : x.category = 1) (h' : lv_has la' nL ((k, jw_rn as x) :: (jw_lv as ls).filter (fun q => !(q.1 == k) && !(q.1 + 1 == k && q.2.category == 2)))) : jw_Lo as nL la' (ls.set k x) := by
  refine ⟨h'.1, h'.2.1, by rw [List.length_set]; exact h.2.2.1, fun i v hv => ?_, fun i v hv hn => ?_⟩
  · by_cases hik : k = i
    · subst hik
      rw [List.getElem?_set_self hk] at hv
      cases hv
      exact hx
    · rw [List.getElem?_set_ne hik] at hv
      exact h.2.2.2.1 i v hv
  · by_cases hik : k = i
    · subst hik
      rw [List.getElem?_set_self hk] at hv
      cases hv
      exact h'.2.2 _ List.mem_cons_self
    · rw [List.getElem?_set_ne hik] at hv
      refine h'.2.2 (i, jw_rn as v) (List.mem_cons_of_mem _ (List.mem_filter.mpr ⟨jw_lv_mem hv hn, ?_⟩))
      have hc := h.2.2.2.1 i v hv
      have h1 : (i == k) = false := by simp; exact fun e => hik e.symm
      have h2 : ((jw_rn as v).category == 2) = false := by rw [jw_rn_cat, hc]; rfl
      show (!(i == k) && !(i + 1 == k && (jw_rn as v).category == 2)) = true
      rw [h1, h2]
      simp
section OPS
variable {own : String} {cc : ByteArray} {nL : Nat} {ret : Option FieldType} {ini : Bool} {Ts : List Cond} {fr lo : Nat} {l : Launch} {pc : Nat}
def jp_H (own : String) (cc : ByteArray) (nL : Nat) (ret : Option FieldType) (ini : Bool) (Ts : List Cond) (fr lo : Nat) (l : Launch) (pc : Nat) (ls st : List Value) (pc' : Nat) (ls' st' : List Value) : Prop :=
  ∀ (D : va_G) (cs : Nat → ClassId) (A : Nat → Prop) (p : Program) (e : Env) (R : Room) (s : State) (m : MethodId) (args : Array Value) (below : List Frame) (meth : Method) (c : Code) (Q : State → Prop) (H : Heap) (locs : List Loc) (cells slots : Nat) (as : Nat → Nat) (la : Array Slot), jc_C own cc nL ret ini D cs Ts A p s m args meth c → fr ≤ R.frames → lo ≤ R.locals → cells ≤ R.cells → slots ≤ R.slots → jw_Lo as nL la ls →
    (∀ la', jw_Lo as nL la' ls' → W p l e R s m args below meth c H locs cells slots Q (F0 m pc' la' (st'.map (jw_rn as)))) → W p l e R s m args below meth c H locs cells slots Q (F0 m pc la (st.map (jw_rn as)))
theorem jb_pure {op : jo_P} (h : ∀ ls st w o, op ls st w = some o → ∃ pc' ls' st', o = .inl (pc', ls', st', w) ∧ jp_H own cc nL ret ini Ts fr lo l pc ls st pc' ls' st') : jc_B own cc nL ret ini Ts fr lo l pc op := by
  refine ⟨fun D cs A as0 w0 p e R s m args below meth c Q hC hfr hlo ls st w pc' ls' st' w' ho => ?_, fun D cs A as0 w0 p e R s m args below meth c hC ls st w r w' ho => ?_⟩
  · obtain ⟨pc1, ls1, st1, e1, h1⟩ := h ls st w _ ho
    cases e1
    exact ⟨⟨Nat.le_refl _, Nat.le_refl _⟩, fun hc hs hG as H locs la hZ hE hL => h1 D cs A p e R s m args below meth c Q H locs _ _ as la hC hfr hlo hc hs hL (fun la' hL' => hG as H locs la' hZ hE hL')⟩
  · obtain ⟨pc1, ls1, st1, e1, h1⟩ := h ls st w _ ho
    cases e1
theorem js_iconst {n : Int} (v : Int32) (hd : decode cc pc = .ok (.iconst n, 1)) (hv : Int32.ofInt n = v) : jc_B own cc nL ret ini Ts fr lo l pc (jo_k (.int v) (pc + 1)) :=
  jb_pure fun ls st w o ho => by
    cases ho
    exact ⟨_, _, _, rfl, fun D cs A p e R s m args below meth c Q H locs cells slots as la hC hfr hlo _ _ hL kk => lv_iconst hC.1 hC.2.1 hd hv (kk la hL)⟩
theorem js_bipush {n : Int} (v : Int32) (hd : decode cc pc = .ok (.bipush n, 2)) (hv : (Int8.ofInt n).toInt32 = v) : jc_B own cc nL ret ini Ts fr lo l pc (jo_k (.int v) (pc + 2)) :=
  jb_pure fun ls st w o ho => by
    cases ho
    exact ⟨_, _, _, rfl, fun D cs A p e R s m args below meth c Q H locs cells slots as la hC hfr hlo _ _ hL kk => lv_bipush hC.1 hC.2.1 hd hv (kk la hL)⟩
theorem js_sipush {n : Int} (v : Int32) (hd : decode cc pc = .ok (.sipush n, 3)) (hv : (Int16.ofInt n).toInt32 = v) : jc_B own cc nL ret ini Ts fr lo l pc (jo_k (.int v) (pc + 3)) :=
  jb_pure fun ls st w o ho => by
    cases ho
    exact ⟨_, _, _, rfl, fun D cs A p e R s m args below meth c Q H locs cells slots as la hC hfr hlo _ _ hL kk => lv_sipush hC.1 hC.2.1 hd hv (kk la hL)⟩
theorem js_lconst {n : Fin 2} (v : Int64) (hd : decode cc pc = .ok (.lconst n, 1)) (hv : Int64.ofNat (n : Nat) = v) : jc_B own cc nL ret ini Ts fr lo l pc (jo_k (.long v) (pc + 1)) :=
  jb_pure fun ls st w o ho => by
    cases ho
    exact ⟨_, _, _, rfl, fun D cs A p e R s m args below meth c Q H locs cells slots as la hC hfr hlo _ _ hL kk => lv_lconst hC.1 hC.2.1 hd hv (kk la hL)⟩
theorem js_ldc {i : Nat} (v : Int32) (hd : decode cc pc = .ok (.ldc i, 2)) (hw : Cond.constant own i v ∈ Ts) : jc_B own cc nL ret ini Ts fr lo l pc (jo_k (.int v) (pc + 2)) :=
  jb_pure fun ls st w o ho => by
    cases ho
    exact ⟨_, _, _, rfl, fun D cs A p e R s m args below meth c Q H locs cells slots as la hC hfr hlo _ _ hL kk => lv_ldc hC.1 hC.2.1 hC.2.2.2.1 (hC.2.2.2.2.1 _ hw) hd (kk la hL)⟩
theorem js_ldcw {i : Nat} (v : Int32) (hd : decode cc pc = .ok (.ldc_w i, 3)) (hw : Cond.constant own i v ∈ Ts) : jc_B own cc nL ret ini Ts fr lo l pc (jo_k (.int v) (pc + 3)) :=
  jb_pure fun ls st w o ho => by
    cases ho
    exact ⟨_, _, _, rfl, fun D cs A p e R s m args below meth c Q H locs cells slots as la hC hfr hlo _ _ hL kk => lv_ldcw hC.1 hC.2.1 hC.2.2.2.1 (hC.2.2.2.2.1 _ hw) hd (kk la hL)⟩
theorem js_ldc2 {i : Nat} (v : Int64) (hd : decode cc pc = .ok (.ldc2_w i, 3)) (hw : Cond.constantLong own i v ∈ Ts) : jc_B own cc nL ret ini Ts fr lo l pc (jo_k (.long v) (pc + 3)) :=
  jb_pure fun ls st w o ho => by
    cases ho
    exact ⟨_, _, _, rfl, fun D cs A p e R s m args below meth c Q H locs cells slots as la hC hfr hlo _ _ hL kk => lv_ldc2 hC.1 hC.2.1 hC.2.2.2.1 (hC.2.2.2.2.1 _ hw) hd (kk la hL)⟩
theorem js_iload_n {k : Fin 4} {i : Nat} (hd : decode cc pc = .ok (.iload_n k, 1)) (hi : (k : Nat) = i) : jc_B own cc nL ret ini Ts fr lo l pc (jo_ild i (pc + 1)) :=
  jb_pure fun ls st w o ho => by
    unfold jo_ild at ho
    split at ho
    · rename_i x hx
      cases ho
      exact ⟨_, _, _, rfl, fun D cs A p e R s m args below meth c Q H locs cells slots as la hC hfr hlo _ _ hL kk => lv_iload_n hC.1 hC.2.1 hd hi (hL.2.2.2.2 i (.int x) hx (by intro h; cases h)) (kk la hL)⟩
    · cases ho
theorem js_iload {i : Nat} (hd : decode cc pc = .ok (.iload i, 2)) : jc_B own cc nL ret ini Ts fr lo l pc (jo_ild i (pc + 2)) :=
  jb_pure fun ls st w o ho => by
    unfold jo_ild at ho
    split at ho
    · rename_i x hx
      cases ho
      exact ⟨_, _, _, rfl, fun D cs A p e R s m args below meth c Q H locs cells slots as la hC hfr hlo _ _ hL kk => lv_iload hC.1 hC.2.1 hd (hL.2.2.2.2 i (.int x) hx (by intro h; cases h)) (kk la hL)⟩
    · cases ho
theorem js_aload_n {k : Fin 4} {i : Nat} (hd : decode cc pc = .ok (.aload_n k, 1)) (hi : (k : Nat) = i) : jc_B own cc nL ret ini Ts fr lo l pc (jo_rld i (pc + 1)) :=
  jb_pure fun ls st w o ho => by
    unfold jo_rld at ho
    split at ho
    · rename_i x hx
      cases ho
      exact ⟨_, _, _, rfl, fun D cs A p e R s m args below meth c Q H locs cells slots as la hC hfr hlo _ _ hL kk => lv_aload_n hC.1 hC.2.1 hd hi (hL.2.2.2.2 i (.ref x) hx (by intro h; cases h)) (kk la hL)⟩
    · cases ho
theorem js_istore_n {k : Fin 4} {i : Nat} (hd : decode cc pc = .ok (.istore_n k, 1)) (hi : (k : Nat) = i) : jc_B own cc nL ret ini Ts fr lo l pc (jo_ist i (pc + 1)) :=
  jb_pure fun ls st w o ho => by
    unfold jo_ist at ho
    split at ho
    · split at ho
      · rename_i hk
        cases ho
        exact ⟨_, _, _, rfl, fun D cs A p e R s m args below meth c Q H locs cells slots as la hC hfr hlo _ _ hL kk => lv_istore_n hC.1 hC.2.1 hd hi hL.has (Nat.lt_of_lt_of_le hk hL.2.2.1) rfl (fun la' h' => kk la' (hL.store hk rfl h'))⟩
      · cases ho
    · cases ho
theorem js_istore {i : Nat} (hd : decode cc pc = .ok (.istore i, 2)) : jc_B own cc nL ret ini Ts fr lo l pc (jo_ist i (pc + 2)) :=
  jb_pure fun ls st w o ho => by
    unfold jo_ist at ho
    split at ho
    · split at ho
      · rename_i hk
        cases ho
        exact ⟨_, _, _, rfl, fun D cs A p e R s m args below meth c Q H locs cells slots as la hC hfr hlo _ _ hL kk => lv_istore hC.1 hC.2.1 hd hL.has (Nat.lt_of_lt_of_le hk hL.2.2.1) rfl (fun la' h' => kk la' (hL.store hk rfl h'))⟩
      · cases ho
    · cases ho
theorem js_astore_n {k : Fin 4} {i : Nat} (hd : decode cc pc = .ok (.astore_n k, 1)) (hi : (k : Nat) = i) : jc_B own cc nL ret ini Ts fr lo l pc (jo_rst i (pc + 1)) :=
  jb_pure fun ls st w o ho => by
    unfold jo_rst at ho
    split at ho
    · split at ho
      · rename_i hk
        cases ho
        exact ⟨_, _, _, rfl, fun D cs A p e R s m args below meth c Q H locs cells slots as la hC hfr hlo _ _ hL kk => lv_astore_n hC.1 hC.2.1 hd hi hL.has (Nat.lt_of_lt_of_le hk hL.2.2.1) rfl (fun la' h' => kk la' (hL.store hk rfl h'))⟩
      · cases ho
    · cases ho
theorem js_iinc {i : Nat} {n : Int} (v : Int32) (hd : decode cc pc = .ok (.iinc i n, 3)) (hv : Int32.ofInt n = v) : jc_B own cc nL ret ini Ts fr lo l pc (jo_inc i v (pc + 3)) :=
  jb_pure fun ls st w o ho => by
    unfold jo_inc at ho
    split at ho
    · rename_i x hx
      cases ho
      have hk := (List.getElem?_eq_some_iff.mp hx).1
      refine ⟨_, _, _, rfl, fun D cs A p e R s m args below meth c Q H locs cells slots as la hC hfr hlo _ _ hL kk => ?_⟩
      obtain ⟨k, hkk⟩ := List.getElem?_of_mem (jw_lv_mem (as := as) hx (by intro h; cases h))
      exact lv_iinc (k := k) hC.1 hC.2.1 hd hL.has hkk (by rw [hv]) (Nat.lt_of_lt_of_le hk hL.2.2.1) rfl (fun la' h' => kk la' (hL.store hk rfl h'))
    · cases ho
end OPS
end
section
section OPS2
variable {own : String} {cc : ByteArray} {nL : Nat} {ret : Option FieldType} {ini : Bool} {Ts : List Cond} {fr lo : Nat} {l : Launch} {pc : Nat}
theorem js_iadd (hd : decode cc pc = .ok (.iadd, 1)) : jc_B own cc nL ret ini Ts fr lo l pc (jo_bin (fun x y => x + y) (pc + 1)) :=
  jb_pure fun ls st w o ho => by
    unfold jo_bin at ho
    split at ho
    · cases ho
      exact ⟨_, _, _, rfl, fun D cs A p e R s m args below meth c Q H locs cells slots as la hC hfr hlo hc hs hL kk => lv_iadd hC.1 hC.2.1 hd (kk la hL)⟩
    · cases ho
theorem js_isub (hd : decode cc pc = .ok (.isub, 1)) : jc_B own cc nL ret ini Ts fr lo l pc (jo_bin (fun x y => x - y) (pc + 1)) :=
  jb_pure fun ls st w o ho => by
    unfold jo_bin at ho
    split at ho
    · cases ho
      exact ⟨_, _, _, rfl, fun D cs A p e R s m args below meth c Q H locs cells slots as la hC hfr hlo hc hs hL kk => lv_isub hC.1 hC.2.1 hd (kk la hL)⟩
    · cases ho
theorem js_imul (hd : decode cc pc = .ok (.imul, 1)) : jc_B own cc nL ret ini Ts fr lo l pc (jo_bin (fun x y => x * y) (pc + 1)) :=
  jb_pure fun ls st w o ho => by
    unfold jo_bin at ho
    split at ho
    · cases ho
      exact ⟨_, _, _, rfl, fun D cs A p e R s m args below meth c Q H locs cells slots as la hC hfr hlo hc hs hL kk => lv_imul hC.1 hC.2.1 hd (kk la hL)⟩
    · cases ho
theorem js_iand (hd : decode cc pc = .ok (.iand, 1)) : jc_B own cc nL ret ini Ts fr lo l pc (jo_bin (fun x y => x &&& y) (pc + 1)) :=
  jb_pure fun ls st w o ho => by
    unfold jo_bin at ho
    split at ho
    · cases ho
      exact ⟨_, _, _, rfl, fun D cs A p e R s m args below meth c Q H locs cells slots as la hC hfr hlo hc hs hL kk => lv_iand hC.1 hC.2.1 hd (kk la hL)⟩
    · cases ho
theorem js_ior (hd : decode cc pc = .ok (.ior, 1)) : jc_B own cc nL ret ini Ts fr lo l pc (jo_bin (fun x y => x ||| y) (pc + 1)) :=
  jb_pure fun ls st w o ho => by
    unfold jo_bin at ho
    split at ho
    · cases ho
      exact ⟨_, _, _, rfl, fun D cs A p e R s m args below meth c Q H locs cells slots as la hC hfr hlo hc hs hL kk => lv_ior hC.1 hC.2.1 hd (kk la hL)⟩
    · cases ho
theorem js_ishl (hd : decode cc pc = .ok (.ishl, 1)) : jc_B own cc nL ret ini Ts fr lo l pc (jo_bin (fun x y => x <<< (y &&& 31)) (pc + 1)) :=
  jb_pure fun ls st w o ho => by
    unfold jo_bin at ho
    split at ho
    · cases ho
      exact ⟨_, _, _, rfl, fun D cs A p e R s m args below meth c Q H locs cells slots as la hC hfr hlo hc hs hL kk => lv_ishl hC.1 hC.2.1 hd (kk la hL)⟩
    · cases ho
theorem js_ishr (hd : decode cc pc = .ok (.ishr, 1)) : jc_B own cc nL ret ini Ts fr lo l pc (jo_bin (fun x y => x >>> (y &&& 31)) (pc + 1)) :=
  jb_pure fun ls st w o ho => by
    unfold jo_bin at ho
    split at ho
    · cases ho
      exact ⟨_, _, _, rfl, fun D cs A p e R s m args below meth c Q H locs cells slots as la hC hfr hlo hc hs hL kk => lv_ishr hC.1 hC.2.1 hd (kk la hL)⟩
    · cases ho
theorem js_iushr (hd : decode cc pc = .ok (.iushr, 1)) : jc_B own cc nL ret ini Ts fr lo l pc (jo_bin (fun x y => (x.toUInt32 >>> (y.toUInt32 &&& Int32.toUInt32 31)).toInt32) (pc + 1)) :=
  jb_pure fun ls st w o ho => by
    unfold jo_bin at ho
    split at ho
    · cases ho
      exact ⟨_, _, _, rfl, fun D cs A p e R s m args below meth c Q H locs cells slots as la hC hfr hlo hc hs hL kk => lv_iushr hC.1 hC.2.1 hd rfl (kk la hL)⟩
    · cases ho
theorem js_idiv (hd : decode cc pc = .ok (.idiv, 1)) : jc_B own cc nL ret ini Ts fr lo l pc (jo_dv (fun x y => x / y) (pc + 1)) :=
  jb_pure fun ls st w o ho => by
    unfold jo_dv at ho
    split at ho
    · split at ho
      · cases ho
      · rename_i hne
        cases ho
        exact ⟨_, _, _, rfl, fun D cs A p e R s m args below meth c Q H locs cells slots as la hC hfr hlo hc hs hL kk => lv_idiv hC.1 hC.2.1 hd hne (kk la hL)⟩
    · cases ho
theorem js_irem (hd : decode cc pc = .ok (.irem, 1)) : jc_B own cc nL ret ini Ts fr lo l pc (jo_dv (fun x y => x - x / y * y) (pc + 1)) :=
  jb_pure fun ls st w o ho => by
    unfold jo_dv at ho
    split at ho
    · split at ho
      · cases ho
      · rename_i hne
        cases ho
        exact ⟨_, _, _, rfl, fun D cs A p e R s m args below meth c Q H locs cells slots as la hC hfr hlo hc hs hL kk => lv_irem hC.1 hC.2.1 hd hne (kk la hL)⟩
    · cases ho
theorem js_ineg (hd : decode cc pc = .ok (.ineg, 1)) : jc_B own cc nL ret ini Ts fr lo l pc (jo_neg (pc + 1)) :=
  jb_pure fun ls st w o ho => by
    unfold jo_neg at ho
    split at ho
    · cases ho
      exact ⟨_, _, _, rfl, fun D cs A p e R s m args below meth c Q H locs cells slots as la hC hfr hlo hc hs hL kk => lv_ineg hC.1 hC.2.1 hd (kk la hL)⟩
    · cases ho
theorem js_ladd (hd : decode cc pc = .ok (.ladd, 1)) : jc_B own cc nL ret ini Ts fr lo l pc (jo_ladd (pc + 1)) :=
  jb_pure fun ls st w o ho => by
    unfold jo_ladd at ho
    split at ho
    · cases ho
      exact ⟨_, _, _, rfl, fun D cs A p e R s m args below meth c Q H locs cells slots as la hC hfr hlo hc hs hL kk => lv_ladd hC.1 hC.2.1 hd (kk la hL)⟩
    · cases ho
theorem js_lcmp (hd : decode cc pc = .ok (.lcmp, 1)) : jc_B own cc nL ret ini Ts fr lo l pc (jo_lcmp (pc + 1)) :=
  jb_pure fun ls st w o ho => by
    unfold jo_lcmp at ho
    split at ho
    · cases ho
      exact ⟨_, _, _, rfl, fun D cs A p e R s m args below meth c Q H locs cells slots as la hC hfr hlo hc hs hL kk => W.lcmp hC.1 hC.2.1 hd (kk la hL)⟩
    · cases ho
theorem js_dup2 (hd : decode cc pc = .ok (.dup2, 1)) : jc_B own cc nL ret ini Ts fr lo l pc (jo_dup2 (pc + 1)) :=
  jb_pure fun ls st w o ho => by
    unfold jo_dup2 at ho
    split at ho
    · cases ho
      exact ⟨_, _, _, rfl, fun D cs A p e R s m args below meth c Q H locs cells slots as la hC hfr hlo hc hs hL kk => lv_dup2_11 hC.1 hC.2.1 hd rfl rfl (kk la hL)⟩
    · cases ho
theorem js_pop (hd : decode cc pc = .ok (.pop, 1)) : jc_B own cc nL ret ini Ts fr lo l pc (jo_pop (pc + 1)) :=
  jb_pure fun ls st w o ho => by
    unfold jo_pop at ho
    split at ho
    · cases ho
      exact ⟨_, _, _, rfl, fun D cs A p e R s m args below meth c Q H locs cells slots as la hC hfr hlo hc hs hL kk => lv_pop hC.1 hC.2.1 hd rfl (kk la hL)⟩
    · cases ho
theorem js_dup (hd : decode cc pc = .ok (.dup, 1)) : jc_B own cc nL ret ini Ts fr lo l pc (jo_dup (pc + 1)) :=
  jb_pure fun ls st w o ho => by
    unfold jo_dup at ho
    split at ho
    · cases ho
      exact ⟨_, _, _, rfl, fun D cs A p e R s m args below meth c Q H locs cells slots as la hC hfr hlo hc hs hL kk => lv_dup hC.1 hC.2.1 hd rfl (kk la hL)⟩
    · cases ho
      exact ⟨_, _, _, rfl, fun D cs A p e R s m args below meth c Q H locs cells slots as la hC hfr hlo hc hs hL kk => lv_dup hC.1 hC.2.1 hd rfl (kk la hL)⟩
    · cases ho
theorem js_goto {off : Int} {t : Nat} (hd : decode cc pc = .ok (.goto off, 3)) (ht : (pc : Int) + off = (t : Int)) : jc_B own cc nL ret ini Ts fr lo l pc (jo_go t) :=
  jb_pure fun ls st w o ho => by
    cases ho
    exact ⟨_, _, _, rfl, fun D cs A p e R s m args below meth c Q H locs cells slots as la hC hfr hlo hc hs hL kk => lv_goto hC.1 hC.2.1 hd ht (kk la hL)⟩
theorem js_if_eq {off : Int} {t : Nat} (hd : decode cc pc = .ok (.ifCond .eq off, 3)) (ht : (pc : Int) + off = (t : Int)) : jc_B own cc nL ret ini Ts fr lo l pc (jo_if (fun x => decide (x = 0)) t (pc + 3)) :=
  jb_pure fun ls st w o ho => by
    unfold jo_if at ho
    split at ho
    · rename_i x st'
      cases ho
      refine ⟨_, _, _, rfl, fun D cs A p e R s m args below meth c Q H locs cells slots as la hC hfr hlo hc hs hL kk => lv_if_eq hC.1 hC.2.1 hd ht (fun h => ?_) (fun h => ?_)⟩
      · have k1 := kk la hL
        simp only [h, decide_true, decide_false, Bool.not_true, Bool.not_false, if_true, if_false, Bool.false_eq_true] at k1
        exact k1
      · have k1 := kk la hL
        simp only [h, decide_true, decide_false, Bool.not_true, Bool.not_false, if_true, if_false, Bool.false_eq_true] at k1
        exact k1
    · cases ho
theorem js_if_ne {off : Int} {t : Nat} (hd : decode cc pc = .ok (.ifCond .ne off, 3)) (ht : (pc : Int) + off = (t : Int)) : jc_B own cc nL ret ini Ts fr lo l pc (jo_if (fun x => !decide (x = 0)) t (pc + 3)) :=
  jb_pure fun ls st w o ho => by
    unfold jo_if at ho
    split at ho
    · rename_i x st'
      cases ho
      refine ⟨_, _, _, rfl, fun D cs A p e R s m args below meth c Q H locs cells slots as la hC hfr hlo hc hs hL kk => lv_if_ne hC.1 hC.2.1 hd ht (fun h => ?_) (fun h => ?_)⟩
      · have k1 := kk la hL
        simp only [h, decide_true, decide_false, Bool.not_true, Bool.not_false, if_true, if_false, Bool.false_eq_true] at k1
        exact k1
      · have k1 := kk la hL
        simp only [h, decide_true, decide_false, Bool.not_true, Bool.not_false, if_true, if_false, Bool.false_eq_true] at k1
        exact k1
    · cases ho
theorem js_if_lt {off : Int} {t : Nat} (hd : decode cc pc = .ok (.ifCond .lt off, 3)) (ht : (pc : Int) + off = (t : Int)) : jc_B own cc nL ret ini Ts fr lo l pc (jo_if (fun x => decide (x < 0)) t (pc + 3)) :=
  jb_pure fun ls st w o ho => by
    unfold jo_if at ho
    split at ho
    · rename_i x st'
      cases ho
      refine ⟨_, _, _, rfl, fun D cs A p e R s m args below meth c Q H locs cells slots as la hC hfr hlo hc hs hL kk => lv_if_lt hC.1 hC.2.1 hd ht (fun h => ?_) (fun h => ?_)⟩
      · have k1 := kk la hL
        simp only [h, decide_true, decide_false, Bool.not_true, Bool.not_false, if_true, if_false, Bool.false_eq_true] at k1
        exact k1
      · have k1 := kk la hL
        simp only [h, decide_true, decide_false, Bool.not_true, Bool.not_false, if_true, if_false, Bool.false_eq_true] at k1
        exact k1
    · cases ho
theorem js_if_ge {off : Int} {t : Nat} (hd : decode cc pc = .ok (.ifCond .ge off, 3)) (ht : (pc : Int) + off = (t : Int)) : jc_B own cc nL ret ini Ts fr lo l pc (jo_if (fun x => decide (0 ≤ x)) t (pc + 3)) :=
  jb_pure fun ls st w o ho => by
    unfold jo_if at ho
    split at ho
    · rename_i x st'
      cases ho
      refine ⟨_, _, _, rfl, fun D cs A p e R s m args below meth c Q H locs cells slots as la hC hfr hlo hc hs hL kk => lv_if_ge hC.1 hC.2.1 hd ht (fun h => ?_) (fun h => ?_)⟩
      · have k1 := kk la hL
        simp only [h, decide_true, decide_false, Bool.not_true, Bool.not_false, if_true, if_false, Bool.false_eq_true] at k1
        exact k1
      · have k1 := kk la hL
        simp only [h, decide_true, decide_false, Bool.not_true, Bool.not_false, if_true, if_false, Bool.false_eq_true] at k1
        exact k1
    · cases ho
theorem js_if_gt {off : Int} {t : Nat} (hd : decode cc pc = .ok (.ifCond .gt off, 3)) (ht : (pc : Int) + off = (t : Int)) : jc_B own cc nL ret ini Ts fr lo l pc (jo_if (fun x => decide (0 < x)) t (pc + 3)) :=
  jb_pure fun ls st w o ho => by
    unfold jo_if at ho
    split at ho
    · rename_i x st'
      cases ho
      refine ⟨_, _, _, rfl, fun D cs A p e R s m args below meth c Q H locs cells slots as la hC hfr hlo hc hs hL kk => lv_if_gt hC.1 hC.2.1 hd ht (fun h => ?_) (fun h => ?_)⟩
      · have k1 := kk la hL
        simp only [h, decide_true, decide_false, Bool.not_true, Bool.not_false, if_true, if_false, Bool.false_eq_true] at k1
        exact k1
      · have k1 := kk la hL
        simp only [h, decide_true, decide_false, Bool.not_true, Bool.not_false, if_true, if_false, Bool.false_eq_true] at k1
        exact k1
    · cases ho
theorem js_if_le {off : Int} {t : Nat} (hd : decode cc pc = .ok (.ifCond .le off, 3)) (ht : (pc : Int) + off = (t : Int)) : jc_B own cc nL ret ini Ts fr lo l pc (jo_if (fun x => decide (x ≤ 0)) t (pc + 3)) :=
  jb_pure fun ls st w o ho => by
    unfold jo_if at ho
    split at ho
    · rename_i x st'
      cases ho
      refine ⟨_, _, _, rfl, fun D cs A p e R s m args below meth c Q H locs cells slots as la hC hfr hlo hc hs hL kk => lv_if_le hC.1 hC.2.1 hd ht (fun h => ?_) (fun h => ?_)⟩
      · have k1 := kk la hL
        simp only [h, decide_true, decide_false, Bool.not_true, Bool.not_false, if_true, if_false, Bool.false_eq_true] at k1
        exact k1
      · have k1 := kk la hL
        simp only [h, decide_true, decide_false, Bool.not_true, Bool.not_false, if_true, if_false, Bool.false_eq_true] at k1
        exact k1
    · cases ho
theorem js_icmp_eq {off : Int} {t : Nat} (hd : decode cc pc = .ok (.if_icmp .eq off, 3)) (ht : (pc : Int) + off = (t : Int)) : jc_B own cc nL ret ini Ts fr lo l pc (jo_ic (fun x y => decide (x = y)) t (pc + 3)) :=
  jb_pure fun ls st w o ho => by
    unfold jo_ic at ho
    split at ho
    · rename_i y x st'
      cases ho
      refine ⟨_, _, _, rfl, fun D cs A p e R s m args below meth c Q H locs cells slots as la hC hfr hlo hc hs hL kk => lv_icmp_eq hC.1 hC.2.1 hd ht (fun h => ?_) (fun h => ?_)⟩
      · have k1 := kk la hL
        simp only [h, decide_true, decide_false, Bool.not_true, Bool.not_false, if_true, if_false, Bool.false_eq_true] at k1
        exact k1
      · have k1 := kk la hL
        simp only [h, decide_true, decide_false, Bool.not_true, Bool.not_false, if_true, if_false, Bool.false_eq_true] at k1
        exact k1
    · cases ho
theorem js_icmp_ne {off : Int} {t : Nat} (hd : decode cc pc = .ok (.if_icmp .ne off, 3)) (ht : (pc : Int) + off = (t : Int)) : jc_B own cc nL ret ini Ts fr lo l pc (jo_ic (fun x y => !decide (x = y)) t (pc + 3)) :=
  jb_pure fun ls st w o ho => by
    unfold jo_ic at ho
    split at ho
    · rename_i y x st'
      cases ho
      refine ⟨_, _, _, rfl, fun D cs A p e R s m args below meth c Q H locs cells slots as la hC hfr hlo hc hs hL kk => lv_icmp_ne hC.1 hC.2.1 hd ht (fun h => ?_) (fun h => ?_)⟩
      · have k1 := kk la hL
        simp only [h, decide_true, decide_false, Bool.not_true, Bool.not_false, if_true, if_false, Bool.false_eq_true] at k1
        exact k1
      · have k1 := kk la hL
        simp only [h, decide_true, decide_false, Bool.not_true, Bool.not_false, if_true, if_false, Bool.false_eq_true] at k1
        exact k1
    · cases ho
theorem js_icmp_lt {off : Int} {t : Nat} (hd : decode cc pc = .ok (.if_icmp .lt off, 3)) (ht : (pc : Int) + off = (t : Int)) : jc_B own cc nL ret ini Ts fr lo l pc (jo_ic (fun x y => decide (x < y)) t (pc + 3)) :=
  jb_pure fun ls st w o ho => by
    unfold jo_ic at ho
    split at ho
    · rename_i y x st'
      cases ho
      refine ⟨_, _, _, rfl, fun D cs A p e R s m args below meth c Q H locs cells slots as la hC hfr hlo hc hs hL kk => lv_icmp_lt hC.1 hC.2.1 hd ht (fun h => ?_) (fun h => ?_)⟩
      · have k1 := kk la hL
        simp only [h, decide_true, decide_false, Bool.not_true, Bool.not_false, if_true, if_false, Bool.false_eq_true] at k1
        exact k1
      · have k1 := kk la hL
        simp only [h, decide_true, decide_false, Bool.not_true, Bool.not_false, if_true, if_false, Bool.false_eq_true] at k1
        exact k1
    · cases ho
theorem js_icmp_ge {off : Int} {t : Nat} (hd : decode cc pc = .ok (.if_icmp .ge off, 3)) (ht : (pc : Int) + off = (t : Int)) : jc_B own cc nL ret ini Ts fr lo l pc (jo_ic (fun x y => decide (y ≤ x)) t (pc + 3)) :=
  jb_pure fun ls st w o ho => by
    unfold jo_ic at ho
    split at ho
    · rename_i y x st'
      cases ho
      refine ⟨_, _, _, rfl, fun D cs A p e R s m args below meth c Q H locs cells slots as la hC hfr hlo hc hs hL kk => lv_icmp_ge hC.1 hC.2.1 hd ht (fun h => ?_) (fun h => ?_)⟩
      · have k1 := kk la hL
        simp only [h, decide_true, decide_false, Bool.not_true, Bool.not_false, if_true, if_false, Bool.false_eq_true] at k1
        exact k1
      · have k1 := kk la hL
        simp only [h, decide_true, decide_false, Bool.not_true, Bool.not_false, if_true, if_false, Bool.false_eq_true] at k1
        exact k1
    · cases ho
theorem js_icmp_gt {off : Int} {t : Nat} (hd : decode cc pc = .ok (.if_icmp .gt off, 3)) (ht : (pc : Int) + off = (t : Int)) : jc_B own cc nL ret ini Ts fr lo l pc (jo_ic (fun x y => decide (y < x)) t (pc + 3)) :=
  jb_pure fun ls st w o ho => by
    unfold jo_ic at ho
    split at ho
    · rename_i y x st'
      cases ho
      refine ⟨_, _, _, rfl, fun D cs A p e R s m args below meth c Q H locs cells slots as la hC hfr hlo hc hs hL kk => lv_icmp_gt hC.1 hC.2.1 hd ht (fun h => ?_) (fun h => ?_)⟩
      · have k1 := kk la hL
        simp only [h, decide_true, decide_false, Bool.not_true, Bool.not_false, if_true, if_false, Bool.false_eq_true] at k1
        exact k1
      · have k1 := kk la hL
        simp only [h, decide_true, decide_false, Bool.not_true, Bool.not_false, if_true, if_false, Bool.false_eq_true] at k1
        exact k1
    · cases ho
theorem js_icmp_le {off : Int} {t : Nat} (hd : decode cc pc = .ok (.if_icmp .le off, 3)) (ht : (pc : Int) + off = (t : Int)) : jc_B own cc nL ret ini Ts fr lo l pc (jo_ic (fun x y => decide (x ≤ y)) t (pc + 3)) :=
  jb_pure fun ls st w o ho => by
    unfold jo_ic at ho
    split at ho
    · rename_i y x st'
      cases ho
      refine ⟨_, _, _, rfl, fun D cs A p e R s m args below meth c Q H locs cells slots as la hC hfr hlo hc hs hL kk => lv_icmp_le hC.1 hC.2.1 hd ht (fun h => ?_) (fun h => ?_)⟩
      · have k1 := kk la hL
        simp only [h, decide_true, decide_false, Bool.not_true, Bool.not_false, if_true, if_false, Bool.false_eq_true] at k1
        exact k1
      · have k1 := kk la hL
        simp only [h, decide_true, decide_false, Bool.not_true, Bool.not_false, if_true, if_false, Bool.false_eq_true] at k1
        exact k1
    · cases ho
theorem js_ts {d lw hi : Int} {offs : Array Int} {len : Nat} {ts : List Nat} {t : Nat} (hd : decode cc pc = .ok (.tableswitch d lw hi offs, len)) (ht : (pc : Int) + d = (t : Int)) (hl : (hi - lw + 1).toNat = ts.length ∧ lw ≤ hi) (hts : ∀ i, i < ts.length → ∃ o, offs[i]? = some o ∧ (pc : Int) + o = (ts.getD i 0 : Nat)) : jc_B own cc nL ret ini Ts fr lo l pc (jo_ts lw ts t) :=
  jb_pure fun ls st w o ho => by
    unfold jo_ts at ho
    split at ho
    · rename_i x st'
      cases ho
      refine ⟨_, _, _, rfl, fun D cs A p e R s m args below meth c Q H locs cells slots as la hC hfr hlo hc hs hL kk => ?_⟩
      have k1 := kk la hL
      by_cases h1 : x.toInt < lw
      · rw [if_pos h1] at k1
        exact lv_tableOut hC.1 hC.2.1 hd (Or.inl h1) ht k1
      · rw [if_neg h1] at k1
        by_cases h2 : hi < x.toInt
        · rw [List.getElem?_eq_none (by omega)] at k1
          exact lv_tableOut hC.1 hC.2.1 hd (Or.inr h2) ht k1
        · have hlt : (x.toInt - lw).toNat < ts.length := by omega
          obtain ⟨o, ho1, ho2⟩ := hts _ hlt
          have e1 : ts[(x.toInt - lw).toNat]? = some (ts.getD (x.toInt - lw).toNat 0) := by rw [List.getD_eq_getElem?_getD, List.getElem?_eq_getElem hlt]; rfl
          rw [e1] at k1
          exact lv_tableIn hC.1 hC.2.1 hd h1 h2 ho1 ho2 k1
    · cases ho
theorem js_max {i : Nat} (hd : decode cc pc = .ok (.invokestatic i, 3)) (h1 : Cond.methodLink own i Lib.Math.max.name ∈ Ts) (h2 : Cond.static Lib.Math.max.name ∈ Ts) (h3 : Cond.initialized "java/lang/Math" ∈ Ts) (h4 : Cond.code Lib.Math.max.name Lib.Math.max.code 2 (some .int) ∈ Ts) (hf : 1 ≤ fr) (hg : 21 ≤ lo) : jc_B own cc nL ret ini Ts fr lo l pc (jo_max (pc + 3)) :=
  jb_pure fun ls st w o ho => by
    unfold jo_max at ho
    split at ho
    · rename_i y x st'
      split at ho
      · rename_i h9
        cases ho
        refine ⟨_, _, _, rfl, fun D cs A p e R s m args below meth c Q H locs cells slots as la hC hfr hlo hc hs hL kk => ?_⟩
        have h5 := jw_sum (as := as) st'
        exact va_mmax hC.1 hC.2.1 (hC.2.2.1.trans hL.1.symm) hC.2.2.2.1 (hC.2.2.2.2.1 _ h1) (hC.2.2.2.2.1 _ h2) (hC.2.2.2.2.1 _ h3) (hC.2.2.2.2.1 _ (by assumption)) (by omega) (by omega) hc hs hd (kk la hL)
      · cases ho
    · cases ho
theorem js_min {i : Nat} (hd : decode cc pc = .ok (.invokestatic i, 3)) (h1 : Cond.methodLink own i Lib.Math.min.name ∈ Ts) (h2 : Cond.static Lib.Math.min.name ∈ Ts) (h3 : Cond.initialized "java/lang/Math" ∈ Ts) (h4 : Cond.code Lib.Math.min.name Lib.Math.min.code 2 (some .int) ∈ Ts) (hf : 1 ≤ fr) (hg : 21 ≤ lo) : jc_B own cc nL ret ini Ts fr lo l pc (jo_min (pc + 3)) :=
  jb_pure fun ls st w o ho => by
    unfold jo_min at ho
    split at ho
    · rename_i y x st'
      split at ho
      · rename_i h9
        cases ho
        refine ⟨_, _, _, rfl, fun D cs A p e R s m args below meth c Q H locs cells slots as la hC hfr hlo hc hs hL kk => ?_⟩
        have h5 := jw_sum (as := as) st'
        exact va_mmin hC.1 hC.2.1 (hC.2.2.1.trans hL.1.symm) hC.2.2.2.1 (hC.2.2.2.2.1 _ h1) (hC.2.2.2.2.1 _ h2) (hC.2.2.2.2.1 _ h3) (hC.2.2.2.2.1 _ (by assumption)) (by omega) (by omega) hc hs hd (kk la hL)
      · cases ho
    · cases ho
theorem js_oin {i : Nat} (hd : decode cc pc = .ok (.invokespecial i, 3)) (h1 : Cond.methodLink own i Lib.objectInit ∈ Ts) (h2 : Cond.instanceMethod Lib.objectInit ∈ Ts) (h3 : Cond.code Lib.objectInit ⟨#[0xb1]⟩ 1 none ∈ Ts) (hf : 1 ≤ fr) (hg : 20 ≤ lo) : jc_B own cc nL ret ini Ts fr lo l pc (jo_oin (pc + 3)) :=
  jb_pure fun ls st w o ho => by
    unfold jo_oin at ho
    split at ho
    · rename_i x st'
      split at ho
      · rename_i h9
        cases ho
        refine ⟨_, _, _, rfl, fun D cs A p e R s m args below meth c Q H locs cells slots as la hC hfr hlo hc hs hL kk => ?_⟩
        have h5 := jw_sum (as := as) st'
        refine W.objInit hC.1 hC.2.1 hC.2.2.2.1 (hC.2.2.2.2.1 _ h1) (hC.2.2.2.2.1 _ h2) (hC.2.2.2.2.1 _ h3) rfl (hL.1.trans hC.2.2.1.symm) rfl hd (by omega) ?_ (kk la hL)
        show 2 * (F0 m pc la _).monitorRoom + _ + 12 ≤ R.locals
        have h6 := lv_room (m := m) (pc := pc) (ls := la) (rest := List.map (jw_rn as) (Value.ref x :: st')) (st := st'.map (jw_rn as)) (by omega)
        omega
      · cases ho
    · cases ho
theorem js_ret (hd : decode cc pc = .ok (.return_, 1)) (hr : ret = none) : jc_B own cc nL ret ini Ts fr lo l pc jo_ret := by
  refine ⟨fun D cs A as0 w0 p e R s m args below meth c Q hC hfr hlo ls st w pc' ls' st' w' ho => ?_, fun D cs A as0 w0 p e R s m args below meth c hC ls st w r w' ho => ?_⟩
  · unfold jo_ret at ho
    split at ho
    · cases ho
    · cases ho
  · unfold jo_ret at ho
    split at ho
    · cases ho
      refine ⟨rfl, fun as H locs la hZ hE hL => ?_⟩
      exact W.vret hC.1 hC.2.1 (hC.2.2.2.2.2.1.trans hr) (fun t ht hW => ⟨⟨as, hE, rfl, by rw [ht]; exact hZ.1, hZ.2.1, hZ.2.2.2⟩, hZ.2.2.1.F ht⟩) hZ.2.2.1.2.2 hd (hlocks := hC.2.2.2.2.2.2.1)
    · cases ho
theorem js_iret (hd : decode cc pc = .ok (.ireturn, 1)) (hr : ret = some .int) : jc_B own cc nL ret ini Ts fr lo l pc jo_iret := by
  refine ⟨fun D cs A as0 w0 p e R s m args below meth c Q hC hfr hlo ls st w pc' ls' st' w' ho => ?_, fun D cs A as0 w0 p e R s m args below meth c hC ls st w r w' ho => ?_⟩
  · unfold jo_iret at ho
    split at ho
    · cases ho
    · cases ho
  · unfold jo_iret at ho
    split at ho
    · cases ho
      refine ⟨rfl, fun as H locs la hZ hE hL => ?_⟩
      exact W.iret hC.1 hC.2.1 (hC.2.2.2.2.2.1.trans hr) (fun t ht hW => ⟨⟨as, hE, rfl, by rw [ht]; exact hZ.1, hZ.2.1, hZ.2.2.2⟩, hZ.2.2.1.F ht⟩) hZ.2.2.1.2.2 hd (hlocks := hC.2.2.2.2.2.2.1)
    · cases ho
theorem js_lret (hd : decode cc pc = .ok (.lreturn, 1)) (hr : ret = some .long) : jc_B own cc nL ret ini Ts fr lo l pc jo_lret := by
  refine ⟨fun D cs A as0 w0 p e R s m args below meth c Q hC hfr hlo ls st w pc' ls' st' w' ho => ?_, fun D cs A as0 w0 p e R s m args below meth c hC ls st w r w' ho => ?_⟩
  · unfold jo_lret at ho
    split at ho
    · cases ho
    · cases ho
  · unfold jo_lret at ho
    split at ho
    · cases ho
      refine ⟨rfl, fun as H locs la hZ hE hL => ?_⟩
      exact W.lret hC.1 hC.2.1 (hC.2.2.2.2.2.1.trans hr) (fun t ht hW => ⟨⟨as, hE, rfl, by rw [ht]; exact hZ.1, hZ.2.1, hZ.2.2.2⟩, hZ.2.2.1.F ht⟩) hZ.2.2.1.2.2 hd (hlocks := hC.2.2.2.2.2.2.1)
    · cases ho
theorem js_zret (hd : decode cc pc = .ok (.ireturn, 1)) (hr : ret = some .boolean) : jc_B own cc nL ret ini Ts fr lo l pc jo_zret := by
  refine ⟨fun D cs A as0 w0 p e R s m args below meth c Q hC hfr hlo ls st w pc' ls' st' w' ho => ?_, fun D cs A as0 w0 p e R s m args below meth c hC ls st w r w' ho => ?_⟩
  · unfold jo_zret at ho
    split at ho
    · split at ho
      · cases ho
      · cases ho
    · cases ho
  · unfold jo_zret at ho
    split at ho
    · split at ho
      · rename_i hn
        cases ho
        refine ⟨rfl, fun as H locs la hZ hE hL => ?_⟩
        exact W.zret hC.1 hC.2.1 (hC.2.2.2.2.2.1.trans hr) hn (fun t ht hW => ⟨⟨as, hE, rfl, by rw [ht]; exact hZ.1, hZ.2.1, hZ.2.2.2⟩, hZ.2.2.1.F ht⟩) hZ.2.2.1.2.2 hd (hlocks := hC.2.2.2.2.2.2.1)
      · cases ho
    · cases ho
end OPS2
end
section
/-! ===== fields, arrays, new cells ===== -/
def jo_gI (ci j n : Nat) : jo_P := fun ls st w => match st with
  | .ref k :: st' => if k < w.1.1 ∧ (w.2.1 k).1 = ci + 3 then some (.inl (n, ls, .int (w.2.2.1 k j) :: st', w)) else none
  | _ => none
def jo_gL (ci j n : Nat) : jo_P := fun ls st w => match st with
  | .ref k :: st' => if k < w.1.1 ∧ (w.2.1 k).1 = ci + 3 then some (.inl (n, ls, .long (w.2.2.2 k j) :: st', w)) else none
  | _ => none
def jo_gR (ci j n : Nat) : jo_P := fun ls st w => match st with
  | .ref k :: st' => match (w.2.1 k).2.2 j with
    | some r => if k < w.1.1 ∧ (w.2.1 k).1 = ci + 3 then some (.inl (n, ls, .ref r :: st', w)) else none
    | none => none
  | _ => none
def jo_pI (ci j n : Nat) : jo_P := fun ls st w => match st with
  | .int x :: .ref k :: st' => if k < w.1.1 ∧ (w.2.1 k).1 = ci + 3 then some (.inl (n, ls, st', jw_mi w k j x)) else none
  | _ => none
def jo_pZ (ci j n : Nat) : jo_P := fun ls st w => match st with
  | .int x :: .ref k :: st' => if (k < w.1.1 ∧ (w.2.1 k).1 = ci + 3) ∧ narrow .boolean (.int x) = .int x ∧ fits .boolean (.int x) = true then some (.inl (n, ls, st', jw_mi w k j x)) else none
  | _ => none
def jo_pL (ci j n : Nat) : jo_P := fun ls st w => match st with
  | .long x :: .ref k :: st' => if k < w.1.1 ∧ (w.2.1 k).1 = ci + 3 then some (.inl (n, ls, st', jw_ml w k j x)) else none
  | _ => none
def jo_pR (ci j n : Nat) : jo_P := fun ls st w => match st with
  | .ref r :: .ref k :: st' => if k < w.1.1 ∧ (w.2.1 k).1 = ci + 3 ∧ r < w.1.1 then some (.inl (n, ls, st', jw_mr w k j r)) else none
  | _ => none
def jo_al (t n : Nat) : jo_P := fun ls st w => match st with
  | .int i :: .ref k :: st' => if (k < w.1.1 ∧ (w.2.1 k).1 = t) ∧ ¬ i < 0 ∧ i.toNatClampNeg < (w.2.1 k).2.1 then some (.inl (n, ls, .int (w.2.2.1 k i.toNatClampNeg) :: st', w)) else none
  | _ => none
def jo_as (n : Nat) : jo_P := fun ls st w => match st with
  | .int x :: .int i :: .ref k :: st' => if (k < w.1.1 ∧ (w.2.1 k).1 = 0) ∧ ¬ i < 0 ∧ i.toNatClampNeg < (w.2.1 k).2.1 then some (.inl (n, ls, st', jw_mi w k i.toNatClampNeg x)) else none
  | _ => none
def jo_zs (n : Nat) : jo_P := fun ls st w => match st with
  | .int x :: .int i :: .ref k :: st' => if (k < w.1.1 ∧ (w.2.1 k).1 = 1) ∧ ¬ i < 0 ∧ i.toNatClampNeg < (w.2.1 k).2.1 then some (.inl (n, ls, st', jw_mi w k i.toNatClampNeg (vp_nar .boolean x))) else none
  | _ => none
def jo_rl (n : Nat) : jo_P := fun ls st w => match st with
  | .int i :: .ref k :: st' => match (w.2.1 k).2.2 i.toNatClampNeg with
    | some r => if (k < w.1.1 ∧ (w.2.1 k).1 = 2) ∧ ¬ i < 0 ∧ i.toNatClampNeg < (w.2.1 k).2.1 then some (.inl (n, ls, .ref r :: st', w)) else none
    | none => none
  | _ => none
/-- a Moment is put into an array of Moments -/
def jo_rs (n : Nat) : jo_P := fun ls st w => match st with
  | .ref r :: .int i :: .ref k :: st' => if (k < w.1.1 ∧ (w.2.1 k).1 = 2) ∧ (r < w.1.1 ∧ (w.2.1 r).1 = 4) ∧ ¬ i < 0 ∧ i.toNatClampNeg < (w.2.1 k).2.1 then some (.inl (n, ls, st', jw_mr w k i.toNatClampNeg r)) else none
  | _ => none
def jo_new (ci n : Nat) : jo_P := fun ls st w => if w.1.1 < 1000 ∧ (ls ++ st).all (jw_ok w.1.1) = true then some (.inl (n, ls, .ref w.1.1 :: st, jw_nw w (ci + 3) 0 (jw_nf ci))) else none
/-- a new array: 0 of ints, 1 of booleans, 2 of Moments -/
def jo_na (t n : Nat) : jo_P := fun ls st w => match st with
  | .int i :: st' => if (w.1.1 < 1000 ∧ (ls ++ st').all (jw_ok w.1.1) = true) ∧ ¬ i < 0 ∧ i.toNatClampNeg ≤ 100000 then some (.inl (n, ls, .ref w.1.1 :: st', jw_nw w t i.toNatClampNeg i.toNatClampNeg)) else none
  | _ => none
def jw_cl (Ts : List Cond) (ci : Nat) (C : String) (T : u_T) (N : Nat) : Prop := vwCl[ci]? = some (C, T, N) ∧ N = jw_nf ci ∧ (∀ w ∈ u_ws C T N, w ∈ Ts) ∧ (∀ k, k < N → parseFieldDescriptor (T k).2.2.1 = some (jw_ty ci k)) ∧ (∀ a, a < N → ∀ b, b < N → a ≠ b → (T a).2.1 ≠ (T b).2.1)
theorem jw_ce_obj {cs : Nat → ClassId} {as : Nat → Nat} {w : jw_W} {k ci : Nat} (h : (w.2.1 k).1 = ci + 3) : jw_ce cs as w k = .inr (ci, (List.range (jw_nf ci)).map (jw_fv as w k ci)) := by
  unfold jw_ce
  rw [h]
  rfl
theorem jw_ce_0 {cs : Nat → ClassId} {as : Nat → Nat} {w : jw_W} {k : Nat} (h : (w.2.1 k).1 = 0) : jw_ce cs as w k = .inl (cs 0, (w.2.1 k).2.1, .inl (w.2.2.1 k)) := by
  unfold jw_ce
  rw [h]
  rfl
theorem jw_ce_1 {cs : Nat → ClassId} {as : Nat → Nat} {w : jw_W} {k : Nat} (h : (w.2.1 k).1 = 1) : jw_ce cs as w k = .inl (cs 1, (w.2.1 k).2.1, .inl (w.2.2.1 k)) := by
  unfold jw_ce
  rw [h]
  rfl
theorem jw_ce_2 {cs : Nat → ClassId} {as : Nat → Nat} {w : jw_W} {k : Nat} (h : (w.2.1 k).1 = 2) : jw_ce cs as w k = .inl (cs 2, (w.2.1 k).2.1, .inr (.inr (.inr (.inr (fun i => ((w.2.1 k).2.2 i).map as))))) := by
  unfold jw_ce
  rw [h]
  rfl
theorem jw_ce_congr {cs : Nat → ClassId} {as : Nat → Nat} {w w' : jw_W} {i : Nat} (h1 : w'.2.1 i = w.2.1 i) (h2 : w'.2.2.1 i = w.2.2.1 i) (h3 : w'.2.2.2 i = w.2.2.2 i) : jw_ce cs as w' i = jw_ce cs as w i := by
  have hf : ∀ ci, jw_fv as w' i ci = jw_fv as w i ci := fun ci => by
    funext j
    unfold jw_fv
    rw [h1, h2, h3]
  unfold jw_ce jw_cg
  rw [h1, h2]
  simp only [hf]
theorem jw_fset {N j : Nat} {g g' : Nat → Value} {v : Value} (hj : j < N) (h1 : g' j = v) (h2 : ∀ i, i ≠ j → g' i = g i) : (List.range N).map g' = ((List.range N).map g).set j v := by
  apply List.ext_getElem?
  intro i
  by_cases hi : i < N
  · by_cases hij : j = i
    · subst hij
      rw [List.getElem?_set_self (by simpa using hi)]
      simp [hi, h1]
    · rw [List.getElem?_set_ne hij]
      simp [hi, h2 i (Ne.symm hij)]
  · rw [List.getElem?_eq_none (by simp; omega), List.getElem?_eq_none (by simp; omega)]
section HEAP
variable {own : String} {cc : ByteArray} {nL : Nat} {ret : Option FieldType} {ini : Bool} {Ts : List Cond} {fr lo : Nat} {l : Launch} {pc : Nat}
def jh_H (own : String) (cc : ByteArray) (nL : Nat) (ret : Option FieldType) (ini : Bool) (Ts : List Cond) (l : Launch) (pc : Nat) (ls st : List Value) (w : jw_W) (pc' : Nat) (st' : List Value) (w' : jw_W) : Prop :=
  ∀ (D : va_G) (cs : Nat → ClassId) (A : Nat → Prop) (p : Program) (e : Env) (R : Room) (s : State) (m : MethodId) (args : Array Value) (below : List Frame) (meth : Method) (c : Code) (Q : State → Prop) (H : Heap) (locs : List Loc) (cells slots : Nat) (as : Nat → Nat) (la : Array Slot), jc_C own cc nL ret ini D cs Ts A p s m args meth c → jw_Z D cs as w A s.heap H locs →
    (∀ H1 locs1, jw_Z D cs as w' A s.heap H1 locs1 → W p l e R s m args below meth c H1 locs1 cells slots Q (F0 m pc' la (st'.map (jw_rn as)))) → W p l e R s m args below meth c H locs cells slots Q (F0 m pc la (st.map (jw_rn as)))
theorem jb_heap {op : jo_P} (h : ∀ ls st w o, op ls st w = some o → ∃ pc' st' w', o = .inl (pc', ls, st', w') ∧ w'.1 = w.1 ∧ jh_H own cc nL ret ini Ts l pc ls st w pc' st' w') : jc_B own cc nL ret ini Ts fr lo l pc op := by
  refine ⟨fun D cs A as0 w0 p e R s m args below meth c Q hC hfr hlo ls st w pc' ls' st' w' ho => ?_, fun D cs A as0 w0 p e R s m args below meth c hC ls st w r w' ho => ?_⟩
  · obtain ⟨pc1, st1, w1, e1, h0, h1⟩ := h ls st w _ ho
    cases e1
    refine ⟨⟨by rw [h0]; exact Nat.le_refl _, by rw [h0]; exact Nat.le_refl _⟩, fun hc hs hG as H locs la hZ hE hL => ?_⟩
    have hE' : jw_E as0 w0 as w' := by unfold jw_E; rw [h0]; exact hE
    refine h1 D cs A p e R s m args below meth c Q H locs _ _ as la hC hZ (fun H1 locs1 hZ1 => ?_)
    have := hG as H1 locs1 la hZ1 hE' hL
    rw [h0] at this
    exact this
  · obtain ⟨pc1, st1, w1, e1, h0, h1⟩ := h ls st w _ ho
    cases e1
theorem js_gI {ci j i : Nat} {C : String} {T : u_T} {N : Nat} (hcl : jw_cl Ts ci C T N) (hj : j < N) (hft : jw_ft ci j = 0) (hd : decode cc pc = .ok (.getfield i, 3)) (hw : Cond.fieldLink own i (T j).1 (T j).2.1 (T j).2.2.1 ∈ Ts) : jc_B own cc nL ret ini Ts fr lo l pc (jo_gI ci j (pc + 3)) :=
  jb_heap fun ls st w o ho => by
    unfold jo_gI at ho
    split at ho
    · rename_i k st'
      split at ho
      · rename_i hk
        cases ho
        refine ⟨_, _, _, rfl, rfl, fun D cs A p e R s m args below meth c Q H locs cells slots as la hC hZ kk => ?_⟩
        obtain ⟨h1, h2, h3, h4, h5⟩ := hcl
        refine va_get hC.1 hC.2.1 hC.2.2.2.2.1 h3 hC.2.2.2.1 hC.2.2.2.2.2.2.2.2.1 hZ.1 k ((jw_at hk.1).trans (by rw [jw_ce_obj hk.2])) h1 j hj (hC.2.2.2.2.1 _ hw) (fun _ h => h) (v := .int (w.2.2.1 k j)) ?_ hd (kk H locs hZ)
        rw [h2] at hj
        simp [hj, jw_fv, hft]
      · cases ho
    · cases ho
theorem js_gIN {ci j i : Nat} {C host : String} {T : u_T} {N : Nat} (hcl : jw_cl Ts ci C T N) (hj : j < N) (hft : jw_ft ci j = 0) (hd : decode cc pc = .ok (.getfield i, 3)) (hw : Cond.fieldLinkNest own i (T j).1 (T j).2.1 (T j).2.2.1 host ∈ lw_tbl) : jc_B own cc nL ret ini Ts fr lo l pc (jo_gI ci j (pc + 3)) :=
  jb_heap fun ls st w o ho => by
    unfold jo_gI at ho
    split at ho
    · rename_i k st'
      split at ho
      · rename_i hk
        cases ho
        refine ⟨_, _, _, rfl, rfl, fun D cs A p e R s m args below meth c Q H locs cells slots as la hC hZ kk => ?_⟩
        obtain ⟨h1, h2, h3, h4, h5⟩ := hcl
        refine va_getN hC.1 hC.2.1 hC.2.2.2.2.1 h3 hC.2.2.2.1 hC.2.2.2.2.2.2.2.2.1 hZ.1 k ((jw_at hk.1).trans (by rw [jw_ce_obj hk.2])) h1 j hj (va_Nw.use rfl (hC.2.2.2.2.2.2.2.2.2.1.1 _ hw rfl)) (fun _ h => h) (v := .int (w.2.2.1 k j)) ?_ hd (kk H locs hZ)
        rw [h2] at hj
        simp [hj, jw_fv, hft]
      · cases ho
    · cases ho
theorem js_gL {ci j i : Nat} {C : String} {T : u_T} {N : Nat} (hcl : jw_cl Ts ci C T N) (hj : j < N) (hft : jw_ft ci j = 1) (hd : decode cc pc = .ok (.getfield i, 3)) (hw : Cond.fieldLink own i (T j).1 (T j).2.1 (T j).2.2.1 ∈ Ts) : jc_B own cc nL ret ini Ts fr lo l pc (jo_gL ci j (pc + 3)) :=
  jb_heap fun ls st w o ho => by
    unfold jo_gL at ho
    split at ho
    · rename_i k st'
      split at ho
      · rename_i hk
        cases ho
        refine ⟨_, _, _, rfl, rfl, fun D cs A p e R s m args below meth c Q H locs cells slots as la hC hZ kk => ?_⟩
        obtain ⟨h1, h2, h3, h4, h5⟩ := hcl
        refine va_get hC.1 hC.2.1 hC.2.2.2.2.1 h3 hC.2.2.2.1 hC.2.2.2.2.2.2.2.2.1 hZ.1 k ((jw_at hk.1).trans (by rw [jw_ce_obj hk.2])) h1 j hj (hC.2.2.2.2.1 _ hw) (fun _ h => h) (v := .long (w.2.2.2 k j)) ?_ hd (kk H locs hZ)
        rw [h2] at hj
        simp [hj, jw_fv, hft]
      · cases ho
    · cases ho
theorem js_gR {ci j i : Nat} {C : String} {T : u_T} {N : Nat} (hcl : jw_cl Ts ci C T N) (hj : j < N) (hft : jw_ft ci j = 2) (hd : decode cc pc = .ok (.getfield i, 3)) (hw : Cond.fieldLink own i (T j).1 (T j).2.1 (T j).2.2.1 ∈ Ts) : jc_B own cc nL ret ini Ts fr lo l pc (jo_gR ci j (pc + 3)) :=
  jb_heap fun ls st w o ho => by
    unfold jo_gR at ho
    split at ho
    · rename_i k st'
      split at ho
      · rename_i r hr
        split at ho
        · rename_i hk
          cases ho
          refine ⟨_, _, _, rfl, rfl, fun D cs A p e R s m args below meth c Q H locs cells slots as la hC hZ kk => ?_⟩
          obtain ⟨h1, h2, h3, h4, h5⟩ := hcl
          refine va_get hC.1 hC.2.1 hC.2.2.2.2.1 h3 hC.2.2.2.1 hC.2.2.2.2.2.2.2.2.1 hZ.1 k ((jw_at hk.1).trans (by rw [jw_ce_obj hk.2])) h1 j hj (hC.2.2.2.2.1 _ hw) (fun _ h => h) (v := .ref (as r)) ?_ hd (kk H locs hZ)
          rw [h2] at hj
          simp [hj, jw_fv, hft, hr, va_rf]
        · cases ho
      · cases ho
    · cases ho
theorem js_gRN {ci j i : Nat} {C host : String} {T : u_T} {N : Nat} (hcl : jw_cl Ts ci C T N) (hj : j < N) (hft : jw_ft ci j = 2) (hd : decode cc pc = .ok (.getfield i, 3)) (hw : Cond.fieldLinkNest own i (T j).1 (T j).2.1 (T j).2.2.1 host ∈ lw_tbl) : jc_B own cc nL ret ini Ts fr lo l pc (jo_gR ci j (pc + 3)) :=
  jb_heap fun ls st w o ho => by
    unfold jo_gR at ho
    split at ho
    · rename_i k st'
      split at ho
      · rename_i r hr
        split at ho
        · rename_i hk
          cases ho
          refine ⟨_, _, _, rfl, rfl, fun D cs A p e R s m args below meth c Q H locs cells slots as la hC hZ kk => ?_⟩
          obtain ⟨h1, h2, h3, h4, h5⟩ := hcl
          refine va_getN hC.1 hC.2.1 hC.2.2.2.2.1 h3 hC.2.2.2.1 hC.2.2.2.2.2.2.2.2.1 hZ.1 k ((jw_at hk.1).trans (by rw [jw_ce_obj hk.2])) h1 j hj (va_Nw.use rfl (hC.2.2.2.2.2.2.2.2.2.1.1 _ hw rfl)) (fun _ h => h) (v := .ref (as r)) ?_ hd (kk H locs hZ)
          rw [h2] at hj
          simp [hj, jw_fv, hft, hr, va_rf]
        · cases ho
      · cases ho
    · cases ho
theorem jw_Z_of {D : va_G} {cs : Nat → ClassId} {as : Nat → Nat} {w w' : jw_W} {A : Nat → Prop} {H0 H1 : Heap} {locs : List Loc} {k : Nat} {e : va_E} (hc : w'.1.1 = w.1.1) (hwf : jw_WF w') (he : jw_ce cs as w' k = e) (ho : ∀ i, i ≠ k → jw_ce cs as w' i = jw_ce cs as w i) (h1 : va_P D vwCl ((jw_wl cs as w).set k (as k, e)) H1) (h2 : va_D A ((jw_wl cs as w).set k (as k, e))) (h3 : va_S A H0 H1 locs) : jw_Z D cs as w' A H0 H1 locs := by
  rw [jw_set (w := w) (w' := w') hc he ho] at h1 h2
  exact ⟨h1, h2, h3, hwf⟩
theorem jw_Z_mi {D : va_G} {cs : Nat → ClassId} {as : Nat → Nat} {w : jw_W} {A : Nat → Prop} {H0 H1 : Heap} {locs : List Loc} {k j : Nat} {x : Int32} {e : va_E} (hwf : jw_WF w) (he : jw_ce cs as (jw_mi w k j x) k = e) (h1 : va_P D vwCl ((jw_wl cs as w).set k (as k, e)) H1) (h2 : va_D A ((jw_wl cs as w).set k (as k, e))) (h3 : va_S A H0 H1 locs) : jw_Z D cs as (jw_mi w k j x) A H0 H1 locs := by
  rw [jw_set (w := w) (w' := jw_mi w k j x) rfl he (fun i hi => jw_ce_congr rfl (if_neg hi) rfl)] at h1 h2
  exact ⟨h1, h2, h3, hwf⟩
theorem jw_mi_obj {cs : Nat → ClassId} {as : Nat → Nat} {w : jw_W} {k ci j : Nat} {x : Int32} (h : (w.2.1 k).1 = ci + 3) (hj : j < jw_nf ci) (hft : jw_ft ci j = 0) : jw_ce cs as (jw_mi w k j x) k = .inr (ci, ((List.range (jw_nf ci)).map (jw_fv as w k ci)).set j (.int x)) := by
  rw [jw_ce_obj (w := jw_mi w k j x) h, jw_fset hj (g := jw_fv as w k ci) (v := .int x)]
  · simp [jw_fv, hft, jw_mi, upd]
  · intro i hi
    unfold jw_fv
    simp [jw_mi, upd, hi]
theorem js_pI {ci j i : Nat} {C : String} {T : u_T} {N : Nat} (hcl : jw_cl Ts ci C T N) (hj : j < N) (hty : jw_ty ci j = .int) (hfin : (T j).2.2.2 = false) (hd : decode cc pc = .ok (.putfield i, 3)) (hw : Cond.fieldLink own i (T j).1 (T j).2.1 (T j).2.2.1 ∈ Ts) : jc_B own cc nL ret ini Ts fr lo l pc (jo_pI ci j (pc + 3)) :=
  jb_heap fun ls st w o ho => by
    have hft : jw_ft ci j = 0 := by unfold jw_ft; rw [hty]
    unfold jo_pI at ho
    split at ho
    · rename_i x k st'
      split at ho
      · rename_i hk
        cases ho
        refine ⟨_, _, _, rfl, rfl, fun D cs A p e R s m args below meth c Q H locs cells slots as la hC hZ kk => ?_⟩
        obtain ⟨h1, h2, h3, h4, h5⟩ := hcl
        have h4j := h4 j hj
        rw [hty] at h4j
        exact va_put hC.1 hC.2.1 hC.2.2.2.2.1 h3 (jw_ty ci) h4 h5 hC.2.2.2.1 hC.2.2.2.2.2.2.2.2.1 hZ.1 hZ.2.1 hZ.2.2.1 k ((jw_at hk.1).trans (by rw [jw_ce_obj hk.2])) h1 j hj (hC.2.2.2.2.1 _ hw) (fun _ h => h) hfin h4j rfl rfl (by rw [← h2]; simpa using hj) hd (fun H1 locs1 g1 g2 g3 => kk H1 locs1 (jw_Z_mi hZ.2.2.2 (jw_mi_obj hk.2 (h2 ▸ hj) hft) g1 g2 g3))
      · cases ho
    · cases ho
theorem js_pIN {ci j i : Nat} {C host : String} {T : u_T} {N : Nat} (hcl : jw_cl Ts ci C T N) (hj : j < N) (hty : jw_ty ci j = .int) (hfin : (T j).2.2.2 = false) (hd : decode cc pc = .ok (.putfield i, 3)) (hw : Cond.fieldLinkNest own i (T j).1 (T j).2.1 (T j).2.2.1 host ∈ lw_tbl) : jc_B own cc nL ret ini Ts fr lo l pc (jo_pI ci j (pc + 3)) :=
  jb_heap fun ls st w o ho => by
    have hft : jw_ft ci j = 0 := by unfold jw_ft; rw [hty]
    unfold jo_pI at ho
    split at ho
    · rename_i x k st'
      split at ho
      · rename_i hk
        cases ho
        refine ⟨_, _, _, rfl, rfl, fun D cs A p e R s m args below meth c Q H locs cells slots as la hC hZ kk => ?_⟩
        obtain ⟨h1, h2, h3, h4, h5⟩ := hcl
        have h4j := h4 j hj
        rw [hty] at h4j
        exact va_putN hC.1 hC.2.1 hC.2.2.2.2.1 h3 (jw_ty ci) h4 h5 hC.2.2.2.1 hC.2.2.2.2.2.2.2.2.1 hZ.1 hZ.2.1 hZ.2.2.1 k ((jw_at hk.1).trans (by rw [jw_ce_obj hk.2])) h1 j hj (va_Nw.use rfl (hC.2.2.2.2.2.2.2.2.2.1.1 _ hw rfl)) (fun _ h => h) hfin h4j rfl rfl (by rw [← h2]; simpa using hj) hd (fun H1 locs1 g1 g2 g3 => kk H1 locs1 (jw_Z_mi hZ.2.2.2 (jw_mi_obj hk.2 (h2 ▸ hj) hft) g1 g2 g3))
      · cases ho
    · cases ho
theorem js_pZ {ci j i : Nat} {C : String} {T : u_T} {N : Nat} (hcl : jw_cl Ts ci C T N) (hj : j < N) (hty : jw_ty ci j = .boolean) (hfin : (T j).2.2.2 = false) (hd : decode cc pc = .ok (.putfield i, 3)) (hw : Cond.fieldLink own i (T j).1 (T j).2.1 (T j).2.2.1 ∈ Ts) : jc_B own cc nL ret ini Ts fr lo l pc (jo_pZ ci j (pc + 3)) :=
  jb_heap fun ls st w o ho => by
    have hft : jw_ft ci j = 0 := by unfold jw_ft; rw [hty]
    unfold jo_pZ at ho
    split at ho
    · rename_i x k st'
      split at ho
      · rename_i hk
        cases ho
        refine ⟨_, _, _, rfl, rfl, fun D cs A p e R s m args below meth c Q H locs cells slots as la hC hZ kk => ?_⟩
        obtain ⟨h1, h2, h3, h4, h5⟩ := hcl
        have h4j := h4 j hj
        rw [hty] at h4j
        exact va_put hC.1 hC.2.1 hC.2.2.2.2.1 h3 (jw_ty ci) h4 h5 hC.2.2.2.1 hC.2.2.2.2.2.2.2.2.1 hZ.1 hZ.2.1 hZ.2.2.1 k ((jw_at hk.1.1).trans (by rw [jw_ce_obj hk.1.2])) h1 j hj (hC.2.2.2.2.1 _ hw) (fun _ h => h) hfin h4j hk.2.1 hk.2.2 (by rw [← h2]; simpa using hj) hd (fun H1 locs1 g1 g2 g3 => kk H1 locs1 (jw_Z_mi hZ.2.2.2 (jw_mi_obj hk.1.2 (h2 ▸ hj) hft) g1 g2 g3))
      · cases ho
    · cases ho
theorem js_pL {ci j i : Nat} {C : String} {T : u_T} {N : Nat} (hcl : jw_cl Ts ci C T N) (hj : j < N) (hty : jw_ty ci j = .long) (hfin : (T j).2.2.2 = false) (hd : decode cc pc = .ok (.putfield i, 3)) (hw : Cond.fieldLink own i (T j).1 (T j).2.1 (T j).2.2.1 ∈ Ts) : jc_B own cc nL ret ini Ts fr lo l pc (jo_pL ci j (pc + 3)) :=
  jb_heap fun ls st w o ho => by
    have hft : jw_ft ci j = 1 := by unfold jw_ft; rw [hty]
    unfold jo_pL at ho
    split at ho
    · rename_i x k st'
      split at ho
      · rename_i hk
        cases ho
        refine ⟨_, _, _, rfl, rfl, fun D cs A p e R s m args below meth c Q H locs cells slots as la hC hZ kk => ?_⟩
        obtain ⟨h1, h2, h3, h4, h5⟩ := hcl
        have h4j := h4 j hj
        rw [hty] at h4j
        refine va_put hC.1 hC.2.1 hC.2.2.2.2.1 h3 (jw_ty ci) h4 h5 hC.2.2.2.1 hC.2.2.2.2.2.2.2.2.1 hZ.1 hZ.2.1 hZ.2.2.1 k ((jw_at hk.1).trans (by rw [jw_ce_obj hk.2])) h1 j hj (hC.2.2.2.2.1 _ hw) (fun _ h => h) hfin h4j rfl rfl (by rw [← h2]; simpa using hj) hd (fun H1 locs1 g1 g2 g3 => kk H1 locs1 ?_)
        have he : jw_ce cs as (jw_ml w k j x) k = .inr (ci, ((List.range (jw_nf ci)).map (jw_fv as w k ci)).set j (.long x)) := by
          rw [jw_ce_obj (w := jw_ml w k j x) hk.2, jw_fset (h2 ▸ hj) (g := jw_fv as w k ci) (v := .long x)]
          · simp [jw_fv, hft, jw_ml, vp_updL]
          · intro i hi
            unfold jw_fv
            simp [jw_ml, vp_updL, hi]
        exact jw_Z_of (w := w) rfl hZ.2.2.2 he (fun i hi => jw_ce_congr rfl rfl (if_neg hi)) g1 g2 g3
      · cases ho
    · cases ho
theorem jw_WF_mr {w : jw_W} {k j r : Nat} (h : jw_WF w) (hr : r < w.1.1) (hk0 : k < w.1.1) : jw_WF (jw_mr w k j r) := by
  intro k' hk' j' r' h'
  show r' < w.1.1
  simp only [jw_mr] at h' hk'
  by_cases e : k' = k
  · rw [if_pos e] at h'
    simp only [va_up] at h'
    by_cases e2 : j' = j
    · rw [if_pos e2] at h'
      cases h'
      exact hr
    · rw [if_neg e2] at h'
      exact h k hk0 j' r' h'
  · rw [if_neg e] at h'
    exact h k' hk' j' r' h'
theorem js_pR {ci j i : Nat} {C : String} {T : u_T} {N : Nat} {ty : FieldType} (hcl : jw_cl Ts ci C T N) (hj : j < N) (hty : jw_ty ci j = ty) (hft : jw_ft ci j = 2) (hn : ∀ a, narrow ty (.ref a) = .ref a) (hfi : ∀ a, fits ty (.ref a) = true) (hfin : (T j).2.2.2 = true) (hown : (T j).1 = own) (hin : ini = true) (hd : decode cc pc = .ok (.putfield i, 3)) (hw : Cond.fieldLink own i (T j).1 (T j).2.1 (T j).2.2.1 ∈ Ts) : jc_B own cc nL ret ini Ts fr lo l pc (jo_pR ci j (pc + 3)) :=
  jb_heap fun ls st w o ho => by
    unfold jo_pR at ho
    split at ho
    · rename_i r k st'
      split at ho
      · rename_i hk
        cases ho
        refine ⟨_, _, _, rfl, rfl, fun D cs A p e R s m args below meth c Q H locs cells slots as la hC hZ kk => ?_⟩
        obtain ⟨h1, h2, h3, h4, h5⟩ := hcl
        have h4j := h4 j hj
        rw [hty] at h4j
        refine va_putF hC.1 hC.2.1 hC.2.2.2.2.1 h3 (jw_ty ci) h4 h5 hC.2.2.2.1 hC.2.2.2.2.2.2.2.2.1 hZ.1 hZ.2.1 hZ.2.2.1 k ((jw_at hk.1).trans (by rw [jw_ce_obj hk.2.1])) h1 j hj (hC.2.2.2.2.1 _ hw) (fun _ h => h) hfin (hC.2.2.2.2.2.2.2.1 hin) hown h4j (hn _) (hfi _) (by rw [← h2]; simpa using hj) hd (fun H1 locs1 g1 g2 g3 => kk H1 locs1 ?_)
        have he : jw_ce cs as (jw_mr w k j r) k = .inr (ci, ((List.range (jw_nf ci)).map (jw_fv as w k ci)).set j (.ref (as r))) := by
          rw [jw_ce_obj (w := jw_mr w k j r) (by simp [jw_mr]; exact hk.2.1), jw_fset (h2 ▸ hj) (g := jw_fv as w k ci) (v := .ref (as r))]
          · simp [jw_fv, hft, jw_mr, va_up, va_rf]
          · intro i hi
            unfold jw_fv
            simp [jw_mr, va_up, hi]
        exact jw_Z_of (w := w) rfl (jw_WF_mr hZ.2.2.2 hk.2.2 hk.1) he (fun i hi => jw_ce_congr (if_neg hi) rfl rfl) g1 g2 g3
      · cases ho
    · cases ho
theorem js_iald (hd : decode cc pc = .ok (.iaload, 1)) : jc_B own cc nL ret ini Ts fr lo l pc (jo_al 0 (pc + 1)) :=
  jb_heap fun ls st w o ho => by
    unfold jo_al at ho
    split at ho
    · rename_i i k st'
      split at ho
      · rename_i hk
        cases ho
        refine ⟨_, _, _, rfl, rfl, fun D cs A p e R s m args below meth c Q H locs cells slots as la hC hZ kk => ?_⟩
        exact va_iald hC.1 hC.2.1 hC.2.2.2.2.2.2.2.2.1 hZ.1 k 0 ((jw_at hk.1.1).trans (by rw [jw_ce_0 hk.1.2])) rfl (fun h => h.elim hk.2.1 (fun h => absurd hk.2.2 (Nat.not_lt.mpr h))) hd (kk H locs hZ)
      · cases ho
    · cases ho
theorem js_zald (hd : decode cc pc = .ok (.baload, 1)) : jc_B own cc nL ret ini Ts fr lo l pc (jo_al 1 (pc + 1)) :=
  jb_heap fun ls st w o ho => by
    unfold jo_al at ho
    split at ho
    · rename_i i k st'
      split at ho
      · rename_i hk
        cases ho
        refine ⟨_, _, _, rfl, rfl, fun D cs A p e R s m args below meth c Q H locs cells slots as la hC hZ kk => ?_⟩
        exact va_zald hC.1 hC.2.1 hC.2.2.2.2.2.2.2.2.1 hZ.1 k 1 ((jw_at hk.1.1).trans (by rw [jw_ce_1 hk.1.2])) rfl (fun h => h.elim hk.2.1 (fun h => absurd hk.2.2 (Nat.not_lt.mpr h))) hd (kk H locs hZ)
      · cases ho
    · cases ho
theorem js_iast (hd : decode cc pc = .ok (.iastore, 1)) : jc_B own cc nL ret ini Ts fr lo l pc (jo_as (pc + 1)) :=
  jb_heap fun ls st w o ho => by
    unfold jo_as at ho
    split at ho
    · rename_i x i k st'
      split at ho
      · rename_i hk
        cases ho
        refine ⟨_, _, _, rfl, rfl, fun D cs A p e R s m args below meth c Q H locs cells slots as la hC hZ kk => ?_⟩
        refine va_iast hC.1 hC.2.1 hC.2.2.2.2.2.2.2.2.1 hZ.1 hZ.2.1 hZ.2.2.1 k 0 ((jw_at hk.1.1).trans (by rw [jw_ce_0 hk.1.2])) rfl (fun h => h.elim hk.2.1 (fun h => absurd hk.2.2 (Nat.not_lt.mpr h))) hd (fun H1 locs1 g1 g2 g3 => kk H1 locs1 (jw_Z_mi hZ.2.2.2 ?_ g1 g2 g3))
        rw [jw_ce_0 (w := jw_mi w k i.toNatClampNeg x) hk.1.2]
        simp [jw_mi]
      · cases ho
    · cases ho
theorem js_zast (hd : decode cc pc = .ok (.bastore, 1)) : jc_B own cc nL ret ini Ts fr lo l pc (jo_zs (pc + 1)) :=
  jb_heap fun ls st w o ho => by
    unfold jo_zs at ho
    split at ho
    · rename_i x i k st'
      split at ho
      · rename_i hk
        cases ho
        refine ⟨_, _, _, rfl, rfl, fun D cs A p e R s m args below meth c Q H locs cells slots as la hC hZ kk => ?_⟩
        refine va_zast hC.1 hC.2.1 hC.2.2.2.2.2.2.2.2.1 hZ.1 hZ.2.1 hZ.2.2.1 k 1 ((jw_at hk.1.1).trans (by rw [jw_ce_1 hk.1.2])) rfl (fun h => h.elim hk.2.1 (fun h => absurd hk.2.2 (Nat.not_lt.mpr h))) hd (fun H1 locs1 g1 g2 g3 => kk H1 locs1 (jw_Z_mi hZ.2.2.2 ?_ g1 g2 g3))
        rw [jw_ce_1 (w := jw_mi w k i.toNatClampNeg (vp_nar .boolean x)) hk.1.2]
        simp [jw_mi]
      · cases ho
    · cases ho
theorem js_rald (hd : decode cc pc = .ok (.aaload, 1)) : jc_B own cc nL ret ini Ts fr lo l pc (jo_rl (pc + 1)) :=
  jb_heap fun ls st w o ho => by
    unfold jo_rl at ho
    split at ho
    · rename_i i k st'
      split at ho
      · rename_i r hr
        split at ho
        · rename_i hk
          cases ho
          refine ⟨_, _, _, rfl, rfl, fun D cs A p e R s m args below meth c Q H locs cells slots as la hC hZ kk => ?_⟩
          refine va_aldq hC.1 hC.2.1 hC.2.2.2.2.2.2.2.2.1 hZ.1 k 2 ((jw_at hk.1.1).trans (by rw [jw_ce_2 hk.1.2])) rfl (fun h => h.elim hk.2.1 (fun h => absurd hk.2.2 (Nat.not_lt.mpr h))) hd ?_
          rw [hr]
          exact kk H locs hZ
        · cases ho
      · cases ho
    · cases ho
theorem js_rast (hd : decode cc pc = .ok (.aastore, 1)) : jc_B own cc nL ret ini Ts fr lo l pc (jo_rs (pc + 1)) :=
  jb_heap fun ls st w o ho => by
    unfold jo_rs at ho
    split at ho
    · rename_i r i k st'
      split at ho
      · rename_i hk
        cases ho
        refine ⟨_, _, _, rfl, rfl, fun D cs A p e R s m args below meth c Q H locs cells slots as la hC hZ kk => ?_⟩
        refine va_astq hC.1 hC.2.1 hC.2.2.2.2.2.2.2.2.1 hZ.1 hZ.2.1 hZ.2.2.1 k 2 r 1 (r := (RX1, TX1, 6)) ((jw_at hk.1.1).trans (by rw [jw_ce_2 hk.1.2])) rfl ((jw_at hk.2.1.1).trans (by rw [jw_ce_obj (ci := 1) hk.2.1.2])) rfl (fun h => h.elim hk.2.2.1 (fun h => absurd hk.2.2.2 (Nat.not_lt.mpr h))) hd (fun H1 locs1 g1 g2 g3 => kk H1 locs1 ?_)
        have he : jw_ce cs as (jw_mr w k i.toNatClampNeg r) k = .inl (cs 2, (w.2.1 k).2.1, .inr (.inr (.inr (.inr (va_up (fun i => ((w.2.1 k).2.2 i).map as) i.toNatClampNeg (some (as r))))))) := by
          rw [jw_ce_2 (w := jw_mr w k i.toNatClampNeg r) (by simp [jw_mr]; exact hk.1.2)]
          simp only [jw_mr, if_true]
          congr 7
          funext j
          unfold va_up
          split <;> rfl
        exact jw_Z_of (w := w) rfl (jw_WF_mr hZ.2.2.2 hk.2.1.1 hk.1.1) he (fun i hi => jw_ce_congr (if_neg hi) rfl rfl) g1 g2 g3
      · cases ho
    · cases ho
end HEAP
end
section
/-! ===== new cells, calls ===== -/
theorem jw_ce_ren {cs : Nat → ClassId} {as as' : Nat → Nat} {w : jw_W} {k : Nat} (h : ∀ j r, (w.2.1 k).2.2 j = some r → as' r = as r) : jw_ce cs as' w k = jw_ce cs as w k := by
  have h1 : ∀ j, ((w.2.1 k).2.2 j).map as' = ((w.2.1 k).2.2 j).map as := fun j => by
    cases hj : (w.2.1 k).2.2 j with
    | none => rfl
    | some r => simp [h j r hj]
  have h2 : ∀ ci, jw_fv as' w k ci = jw_fv as w k ci := fun ci => by
    funext j
    unfold jw_fv
    rw [h1 j]
  unfold jw_ce jw_cg
  simp only [h1, h2]
theorem jw_wl_nw {cs : Nat → ClassId} {as : Nat → Nat} {w : jw_W} {t n sl q : Nat} (hwf : jw_WF w) : jw_wl cs (va_up as w.1.1 q) (jw_nw w t n sl) = jw_wl cs as w ++ [(q, jw_ce cs (va_up as w.1.1 q) (jw_nw w t n sl) w.1.1)] := by
  have hl : ∀ k, k < w.1.1 → va_up as w.1.1 q k = as k := fun k hk => if_neg (Nat.ne_of_lt hk)
  show (List.range (w.1.1 + 1)).map _ = _
  rw [List.range_succ, List.map_append]
  congr 1
  · apply List.map_congr_left
    intro k hk
    have hk := List.mem_range.mp hk
    have hn := Nat.ne_of_lt hk
    rw [hl k hk, jw_ce_congr (w := w) (if_neg hn) (if_neg hn) (if_neg hn), jw_ce_ren (fun j r hr => hl r (hwf k hk j r hr))]
  · show [(va_up as w.1.1 q w.1.1, _)] = _
    rw [show va_up as w.1.1 q w.1.1 = q from if_pos rfl]
theorem jw_WF_nw {w : jw_W} {t n sl : Nat} (hwf : jw_WF w) : jw_WF (jw_nw w t n sl) := by
  intro k hk j r hr
  show r < w.1.1 + 1
  simp only [jw_nw] at hk hr
  by_cases e : k = w.1.1
  · rw [if_pos e] at hr
    cases hr
  · rw [if_neg e] at hr
    have := hwf k (by omega) j r hr
    omega
theorem jw_Lo.ren {as as' : Nat → Nat} {nL : Nat} {la : Array Slot} {ls : List Value} (h : jw_Lo as nL la ls) (hr : ∀ v ∈ ls, jw_rn as' v = jw_rn as v) : jw_Lo as' nL la ls :=
  ⟨h.1, h.2.1, h.2.2.1, h.2.2.2.1, fun i v hv hn => by rw [hr v (List.mem_of_getElem? hv)]; exact h.2.2.2.2 i v hv hn⟩
theorem jw_map_ren {as as' : Nat → Nat} {st : List Value} (hr : ∀ v ∈ st, jw_rn as' v = jw_rn as v) : st.map (jw_rn as') = st.map (jw_rn as) := List.map_congr_left hr
theorem jw_E_nw {as0 as : Nat → Nat} {w0 w : jw_W} {t n sl q : Nat} (h : jw_E as0 w0 as w) : jw_E as0 w0 (va_up as w.1.1 q) (jw_nw w t n sl) := by
  obtain ⟨h1, h2, h3⟩ := h
  refine ⟨fun k hk => ?_, ?_, ?_⟩
  · show (if k = w.1.1 then q else as k) = as0 k
    have hk : k < w0.1.1 ∨ w.1.1 + 1 ≤ k := hk
    rw [if_neg (by omega)]
    exact h1 k (by omega)
  · show w0.1.1 ≤ w.1.1 + 1
    omega
  · show w0.1.2 ≤ w.1.2 + sl
    omega
theorem jw_va_up_ok {as : Nat → Nat} {n q : Nat} {vs : List Value} (hn : n < 1000) (h : vs.all (jw_ok n) = true) : ∀ v ∈ vs, jw_rn (va_up as n q) v = jw_rn as v := fun v hv =>
  jw_rn_ok (n := n) (n' := n + 1) (fun k hk => if_neg (by omega)) (by omega) (List.all_eq_true.mp h v hv)
section NEWC
variable {own : String} {cc : ByteArray} {nL : Nat} {ret : Option FieldType} {ini : Bool} {Ts : List Cond} {fr lo : Nat} {l : Launch} {pc : Nat}
theorem js_new {ci i : Nat} {C : String} {T : u_T} {N : Nat} (hcl : jw_cl Ts ci C T N) (hdf : ∀ j, j < N → defaultValue (jw_ty ci j) = match jw_ft ci j with | 0 => Value.int 0 | 1 => Value.long 0 | _ => Value.null) (hd : decode cc pc = .ok (.new i, 3)) (h1 : Cond.classLink own i C ∈ Ts) (h2 : Cond.instantiable C N ∈ Ts) (h3 : Cond.initialized C ∈ Ts) : jc_B own cc nL ret ini Ts fr lo l pc (jo_new ci (pc + 3)) := by
  refine ⟨fun D cs A as0 w0 p e R s m args below meth c Q hC hfr hlo ls st w pc' ls' st' w' ho => ?_, fun D cs A as0 w0 p e R s m args below meth c hC ls st w r w' ho => ?_⟩
  · unfold jo_new at ho
    split at ho
    · rename_i hok
      cases ho
      refine ⟨⟨Nat.le_succ _, Nat.le_add_right _ _⟩, fun hc hs hG as H locs la hZ hE hL => ?_⟩
      obtain ⟨g1, g2, g3, g4, g5⟩ := hcl
      have hc : w.1.1 + 1 - w0.1.1 ≤ R.cells := hc
      have hs : w.1.2 + jw_nf ci - w0.1.2 ≤ R.slots := hs
      have e1 := hE.2.1
      have e2 := hE.2.2
      refine va_new (fs := (List.range (jw_nf ci)).map (fun j => match jw_ft ci j with | 0 => Value.int 0 | 1 => Value.long 0 | _ => Value.null)) hC.1 hC.2.1 hC.2.2.2.2.1 g3 (jw_ty ci) g4 hC.2.2.2.1 (hC.2.2.2.2.1 _ h1) (hC.2.2.2.2.1 _ h2) (hC.2.2.2.2.1 _ h3) hC.2.2.2.2.2.2.2.2.1 hZ.1 hZ.2.1 hZ.2.2.1 hC.2.2.2.2.2.2.2.2.2.2 g1 (fun j hj => ?_) (by omega) (by omega) hd (fun q H1 k1 k2 k3 => ?_)
      · rw [hdf j hj]
        rw [g2] at hj
        simp [vp_V, List.getD_eq_getElem?_getD, hj]
      · have ha := List.all_eq_true.mp hok.2
        have hv := jw_va_up_ok (as := as) (q := q) hok.1 hok.2
        have hG1 := hG (va_up as w.1.1 q) H1 locs la
        have hw := jw_wl_nw (cs := cs) (as := as) (t := ci + 3) (n := 0) (sl := jw_nf ci) (q := q) hZ.2.2.2
        have he : jw_ce cs (va_up as w.1.1 q) (jw_nw w (ci + 3) 0 (jw_nf ci)) w.1.1 = .inr (ci, (List.range (jw_nf ci)).map (fun j => match jw_ft ci j with | 0 => Value.int 0 | 1 => Value.long 0 | _ => Value.null)) := by
          rw [jw_ce_obj (ci := ci) (by simp [jw_nw])]
          congr 2
          apply List.map_congr_left
          intro j _
          unfold jw_fv
          simp only [jw_nw, if_true]
          split <;> first | rfl | simp_all [va_rf]
        rw [he] at hw
        have hG2 := hG1 (by unfold jw_Z; rw [hw]; exact ⟨k1, k2, k3, jw_WF_nw hZ.2.2.2⟩) (jw_E_nw hE) (hL.ren (fun v hv' => hv v (List.mem_append_left _ hv')))
        have e3 : (jw_nw w (ci + 3) 0 (jw_nf ci)).1.1 - w0.1.1 = w.1.1 - w0.1.1 + 1 := by show w.1.1 + 1 - w0.1.1 = _; omega
        have e4 : (jw_nw w (ci + 3) 0 (jw_nf ci)).1.2 - w0.1.2 = w.1.2 - w0.1.2 + N := by show w.1.2 + jw_nf ci - w0.1.2 = _; omega
        rw [e3, e4, List.map_cons, jw_map_ren (fun v hv' => hv v (List.mem_append_right _ hv'))] at hG2
        have e5 : jw_rn (va_up as w.1.1 q) (.ref w.1.1) = .ref q := by show Value.ref (va_up as w.1.1 q w.1.1) = _; rw [show va_up as w.1.1 q w.1.1 = q from if_pos rfl]
        rw [e5] at hG2
        exact hG2
    · cases ho
  · unfold jo_new at ho
    split at ho <;> cases ho
theorem js_na (t : Nat) {at' : ArrayType} {ty : FieldType} (ht : (t = 0 ∧ at' = .int ∧ ty = .int) ∨ (t = 1 ∧ at' = .boolean ∧ ty = .boolean)) (hd : decode cc pc = .ok (.newarray at', 2)) (h1 : Cond.arrayClass ty ∈ Ts) : jc_B own cc nL ret ini Ts fr lo l pc (jo_na t (pc + 2)) := by
  refine ⟨fun D cs A as0 w0 p e R s m args below meth c Q hC hfr hlo ls st w pc' ls' st' w' ho => ?_, fun D cs A as0 w0 p e R s m args below meth c hC ls st w r w' ho => ?_⟩
  · unfold jo_na at ho
    split at ho
    · rename_i i st'
      split at ho
      · rename_i hok
        cases ho
        refine ⟨⟨Nat.le_succ _, Nat.le_add_right _ _⟩, fun hc hs hG as H locs la hZ hE hL => ?_⟩
        have hc : w.1.1 + 1 - w0.1.1 ≤ R.cells := hc
        have hs : w.1.2 + i.toNatClampNeg - w0.1.2 ≤ R.slots := hs
        have e1 := hE.2.1
        have e2 := hE.2.2
        have hty : newarray.typeOf at' = ty := by rcases ht with ⟨-, rfl, rfl⟩ | ⟨-, rfl, rfl⟩ <;> rfl
        have hbt : componentBytes ty ≤ 4 := by rcases ht with ⟨-, rfl, rfl⟩ | ⟨-, rfl, rfl⟩ <;> decide
        refine va_newa (atype := at') (ty := ty) (a0 := (i.toNatClampNeg, .inl (fun _ => 0))) hC.1 hC.2.1 (by rw [hty]; exact hC.2.2.2.2.1 _ h1) hty hC.2.2.2.2.2.2.2.2.1 hZ.1 hZ.2.1 hZ.2.2.1 hC.2.2.2.2.2.2.2.2.2.2 (fun cA => ?_) hok.2.1 rfl (Nat.le_trans (Nat.mul_le_mul hok.2.2 hbt) (by decide)) (by omega) (by omega) hd (fun q cA H1 k0 k1 k2 k3 => ?_)
        · rcases ht with ⟨-, rfl, rfl⟩ | ⟨-, rfl, rfl⟩ <;> rfl
        · have hcA : cA = cs t := by
            have a1 := (k0.2 3 (cA, ty) rfl).2
            rcases ht with ⟨rfl, -, rfl⟩ | ⟨rfl, -, rfl⟩
            · have a2 := (k0.2 0 (cs 0, .int) rfl).2
              exact Option.some.inj (a1.symm.trans a2)
            · have a2 := (k0.2 1 (cs 1, .boolean) rfl).2
              exact Option.some.inj (a1.symm.trans a2)
          have hv := jw_va_up_ok (as := as) (q := q) hok.1.1 hok.1.2
          have hG1 := hG (va_up as w.1.1 q) H1 locs la
          have hw := jw_wl_nw (cs := cs) (as := as) (t := t) (n := i.toNatClampNeg) (sl := i.toNatClampNeg) (q := q) hZ.2.2.2
          have he : jw_ce cs (va_up as w.1.1 q) (jw_nw w t i.toNatClampNeg i.toNatClampNeg) w.1.1 = .inl (cA, i.toNatClampNeg, .inl (fun _ => 0)) := by
            rcases ht with ⟨rfl, -, rfl⟩ | ⟨rfl, -, rfl⟩
            · rw [jw_ce_0 (by simp [jw_nw]), hcA]
              simp [jw_nw]
            · rw [jw_ce_1 (by simp [jw_nw]), hcA]
              simp [jw_nw]
          rw [he] at hw
          have hG2 := hG1 (by unfold jw_Z; rw [hw]; exact ⟨k1, k2, k3, jw_WF_nw hZ.2.2.2⟩) (jw_E_nw hE) (hL.ren (fun v hv' => hv v (List.mem_append_left _ hv')))
          have e3 : (jw_nw w t i.toNatClampNeg i.toNatClampNeg).1.1 - w0.1.1 = w.1.1 - w0.1.1 + 1 := by show w.1.1 + 1 - w0.1.1 = _; omega
          have e4 : (jw_nw w t i.toNatClampNeg i.toNatClampNeg).1.2 - w0.1.2 = w.1.2 - w0.1.2 + i.toNatClampNeg := by show w.1.2 + i.toNatClampNeg - w0.1.2 = _; omega
          rw [e3, e4, List.map_cons, jw_map_ren (fun v hv' => hv v (List.mem_append_right _ hv'))] at hG2
          have e5 : jw_rn (va_up as w.1.1 q) (.ref w.1.1) = .ref q := by show Value.ref (va_up as w.1.1 q w.1.1) = _; rw [show va_up as w.1.1 q w.1.1 = q from if_pos rfl]
          rw [e5] at hG2
          exact hG2
      · cases ho
    · cases ho
  · unfold jo_na at ho
    split at ho
    · split at ho <;> cases ho
    · cases ho
theorem js_nq {i : Nat} (hd : decode cc pc = .ok (.anewarray i, 3)) (h1 : Cond.classLink own i "RodChimes$Moment" ∈ Ts) : jc_B own cc nL ret ini Ts fr lo l pc (jo_na 2 (pc + 3)) := by
  refine ⟨fun D cs A as0 w0 p e R s m args below meth c Q hC hfr hlo ls st w pc' ls' st' w' ho => ?_, fun D cs A as0 w0 p e R s m args below meth c hC ls st w r w' ho => ?_⟩
  · unfold jo_na at ho
    split at ho
    · rename_i i st'
      split at ho
      · rename_i hok
        cases ho
        refine ⟨⟨Nat.le_succ _, Nat.le_add_right _ _⟩, fun hc hs hG as H locs la hZ hE hL => ?_⟩
        have hc : w.1.1 + 1 - w0.1.1 ≤ R.cells := hc
        have hs : w.1.2 + i.toNatClampNeg - w0.1.2 ≤ R.slots := hs
        have e1 := hE.2.1
        have e2 := hE.2.2
        refine va_newq hC.1 hC.2.1 hC.2.2.2.1 (hC.2.2.2.2.1 _ h1) hC.2.2.2.2.2.2.2.2.2.1.2 hC.2.2.2.2.2.2.2.2.1 hZ.1 hZ.2.1 hZ.2.2.1 hC.2.2.2.2.2.2.2.2.2.2 hok.2.1 rfl (Nat.le_trans (Nat.mul_le_mul hok.2.2 (Nat.le_refl 4)) (by decide)) (by omega) (by omega) hd (fun q cA H1 k0 k1 k2 k3 => ?_)
        have hcA : cA = cs 2 := by
          obtain ⟨_, _, _, _, _, a1⟩ := (k0.2 3 (cA, .object "RodChimes$Moment") rfl).2
          obtain ⟨_, _, _, _, _, a2⟩ := (k0.2 2 (cs 2, .object "RodChimes$Moment") rfl).2
          exact Option.some.inj (a1.symm.trans a2)
        have hv := jw_va_up_ok (as := as) (q := q) hok.1.1 hok.1.2
        have hG1 := hG (va_up as w.1.1 q) H1 locs la
        have hw := jw_wl_nw (cs := cs) (as := as) (t := 2) (n := i.toNatClampNeg) (sl := i.toNatClampNeg) (q := q) hZ.2.2.2
        have he : jw_ce cs (va_up as w.1.1 q) (jw_nw w 2 i.toNatClampNeg i.toNatClampNeg) w.1.1 = .inl (cA, i.toNatClampNeg, .inr (.inr (.inr (.inr (fun _ => none))))) := by
          rw [jw_ce_2 (by simp [jw_nw]), hcA]
          simp [jw_nw]
        rw [he] at hw
        have hG2 := hG1 (by unfold jw_Z; rw [hw]; exact ⟨k1, k2, k3, jw_WF_nw hZ.2.2.2⟩) (jw_E_nw hE) (hL.ren (fun v hv' => hv v (List.mem_append_left _ hv')))
        have e3 : (jw_nw w 2 i.toNatClampNeg i.toNatClampNeg).1.1 - w0.1.1 = w.1.1 - w0.1.1 + 1 := by show w.1.1 + 1 - w0.1.1 = _; omega
        have e4 : (jw_nw w 2 i.toNatClampNeg i.toNatClampNeg).1.2 - w0.1.2 = w.1.2 - w0.1.2 + i.toNatClampNeg := by show w.1.2 + i.toNatClampNeg - w0.1.2 = _; omega
        rw [e3, e4, List.map_cons, jw_map_ren (fun v hv' => hv v (List.mem_append_right _ hv'))] at hG2
        have e5 : jw_rn (va_up as w.1.1 q) (.ref w.1.1) = .ref q := by show Value.ref (va_up as w.1.1 q w.1.1) = _; rw [show va_up as w.1.1 q w.1.1 = q from if_pos rfl]
        rw [e5] at hG2
        exact hG2
      · cases ho
    · cases ho
  · unfold jo_na at ho
    split at ho
    · split at ho <;> cases ho
    · cases ho
end NEWC
end
section
/-! ===== methods and calls ===== -/
def jw_tb : List Cond := lw_tbl.filter goodWord
theorem jw_in {w : Cond} (i : Nat) (h : lw_tbl[i]? = some w) (g : goodWord w = true) : w ∈ jw_tb := List.mem_filter.mpr ⟨List.mem_of_getElem? h, g⟩
theorem jw_nin {w : Cond} (i : Nat) (h : lw_tbl[i]? = some w) : w ∈ lw_tbl := List.mem_of_getElem? h
def jc_ws (y : MethodName) (bytes : ByteArray) (mL : Nat) (ret : Option FieldType) : List Cond := .code y bytes mL ret :: jw_tb
theorem jw_gd {w : Cond} (h : w ∈ jw_tb) : (w.onTables && w.keeps) = true ∨ ∃ ty, w = .arrayClass ty := good_of_word (List.mem_filter.mp h).2
theorem jw_goodIn {Ts ws : List Cond} (hT : ∀ w ∈ jw_tb, w ∈ Ts) (h : ∀ w ∈ ws, w ∈ jw_tb) : GoodIn Ts ws := fun w hw => ⟨hT w (h w hw), jw_gd (h w hw)⟩
theorem jw_ws_in {y : MethodName} {bytes : ByteArray} {mL : Nat} {ret : Option FieldType} : ∀ w ∈ jw_tb, w ∈ jc_ws y bytes mL ret := fun _ h => List.mem_cons_of_mem _ h
def jc_M (l : Launch) (y : MethodName) (ws : List Cond) (fr lo : Nat) (av : List Value) (w : jw_W) (r : Option Value) (w' : jw_W) : Prop :=
  ∀ (D : va_G) (cs : Nat → ClassId) (as : Nat → Nat) (sz : Nat), Met l y ws { frames := fr, cells := w'.1.1 - w.1.1, slots := w'.1.2 - w.1.2, locals := lo } (va_Pc (av.map (jw_rn as)) (fun U => U.heap.size = sz ∧ jw_V D cs as w U)) (jc_Q D cs as w (va_A (jw_wl cs as w) sz) r w') (w'.1.1 - w.1.1) (w'.1.2 - w.1.2) (va_A (jw_wl cs as w) sz)
noncomputable def jr_call (P : Nat → jo_P) (na nL : Nat) (av : List Value) (w : jw_W) : Option jo_R := if av.length = na ∧ av.all (fun v => Nat.beq v.category 1) = true then jr_ev P 0 (av ++ List.replicate (nL - na) Value.null) [] w else none
theorem jw_args : ∀ (vs : List Value) (n i : Nat) (v : Value), (∀ v ∈ vs, v.category = 1) → vs[i]? = some v → (n + i, v) ∈ lv_args n vs
  | [], _, _, _, _, h => by simp at h
  | a :: vs, n, 0, v, _, h => by
    simp at h
    subst h
    exact List.mem_cons_self
  | a :: vs, n, i + 1, v, hc, h => by
    rw [List.getElem?_cons_succ] at h
    have h1 := jw_args vs (n + 1) i v (fun v hv => hc v (List.mem_cons_of_mem _ hv)) h
    have h2 : ¬ a.category = 2 := by rw [hc a List.mem_cons_self]; decide
    unfold lv_args
    rw [if_neg h2]
    rw [show n + (i + 1) = n + 1 + i by omega]
    exact List.mem_cons_of_mem _ h1
theorem jw_sl_len : ∀ (vs : List Value), (∀ v ∈ vs, v.category = 1) → (lg_sl vs).length = vs.length
  | [], _ => rfl
  | a :: vs, hc => by
    have h1 := jw_sl_len vs (fun v hv => hc v (List.mem_cons_of_mem _ hv))
    have h2 : ¬ a.category = 2 := by rw [hc a List.mem_cons_self]; decide
    simp only [lg_sl, List.flatMap_cons, List.length_append] at h1 ⊢
    rw [if_neg h2, h1]
    simp; omega
theorem jc_met {l : Launch} {y : MethodName} {bytes : ByteArray} {nL na : Nat} {ret : Option FieldType} {ini : Bool} {fr lo : Nat} {P : Nat → jo_P} (hB : ∀ pc, jc_B y.cls bytes nL ret ini (jc_ws y bytes nL ret) fr lo l pc (P pc)) (hpl : plainName y.cls = true) (hini : ini = true → y.name = "<init>") (hna : na ≤ nL) {av : List Value} {w : jw_W} {r : Option Value} {w' : jw_W} (h : jr_call P na nL av w = some (r, w')) : jc_M l y (jc_ws y bytes nL ret) fr lo av w r w' := by
  unfold jr_call at h
  split at h
  · rename_i hav
    obtain ⟨n, hn⟩ := (jr_iff _).mp h
    intro D cs as sz
    refine Met.ofW (cc := bytes) (maxL := nL) (ret := ret) hpl rfl ?_
    intro p e s m args below meth c s₁ B hml hv
    obtain ⟨rfl, hsz, hK, hN, hP, hD0, hWF⟩ := hv
    have hts := atoms_spec (ws := jc_ws y bytes nL ret) B.pre
    have hown : s.vm.findClass y.cls = some m.cls := findClass_of_methodNamed B.named
    have hin : meth.name = y.name := (name_of_methodNamed B.named B.method).1
    subst hsz
    have hD := hD0.self (sz := s.heap.size)
    have hC : jc_C y.cls bytes nL ret ini D cs (jc_ws y bytes nL ret) (va_A (jw_wl cs as w) s.heap.size) p s m (av.map (jw_rn as)).toArray meth c :=
      ⟨B.exec, B.bytes, hml, hown, hts, B.returns, B.notSynchronized, fun hi => hin.trans (hini hi), hK, hN, fun q hq => Or.inr hq⟩
    have hR := (jc_run hB (as0 := as) (w0 := w) (e := e) (R := { frames := fr, cells := w'.1.1 - w.1.1, slots := w'.1.2 - w.1.2, locals := lo }) (below := below) hC (Nat.le_refl _) (Nat.le_refl _) n 0 _ [] w r w' hn).2 (Nat.le_refl _) (Nat.le_refl _)
    have hcat : ∀ v ∈ av.map (jw_rn as), v.category = 1 := by
      intro v hv
      obtain ⟨u, hu, rfl⟩ := List.mem_map.mp hv
      rw [jw_rn_cat]
      exact Nat.eq_of_beq_eq_true (List.all_eq_true.mp hav.2 u hu)
    have hlen := jw_sl_len _ hcat
    have hl := lv_entry (av.map (jw_rn as)) (n := nL) (by rw [hlen, List.length_map, hav.1]; exact hna)
    rw [lg_entry_eq]
    have hLo : jw_Lo as nL ((lg_sl (av.map (jw_rn as)) ++ List.replicate (nL - (lg_sl (av.map (jw_rn as))).length) Slot.unset).toArray) (av ++ List.replicate (nL - na) Value.null) := by
      have hrep : ∀ (i : Nat) (v : Value), (av ++ List.replicate (nL - na) Value.null)[i]? = some v → av[i]? = some v ∨ v = Value.null := by
        intro i v hv
        by_cases hi : i < av.length
        · rw [List.getElem?_append_left hi] at hv
          exact Or.inl hv
        · rw [List.getElem?_append_right (by omega)] at hv
          exact Or.inr (List.eq_of_mem_replicate (List.mem_of_getElem? hv))
      refine ⟨hl.1, hl.2.1, by rw [List.length_append, List.length_replicate, hav.1]; omega, fun i v hv => ?_, fun i v hv hn => ?_⟩
      · rcases hrep i v hv with h1 | h1
        · exact Nat.eq_of_beq_eq_true (List.all_eq_true.mp hav.2 v (List.mem_of_getElem? h1))
        · rw [h1]; rfl
      · rcases hrep i v hv with h1 | h1
        · have h2 := jw_args (av.map (jw_rn as)) 0 i (jw_rn as v) hcat (by rw [List.getElem?_map, h1]; rfl)
          rw [Nat.zero_add] at h2
          exact hl.2.2 _ h2
        · exact absurd h1 hn
    have hG := hR as s.heap [] _ ⟨hP, hD, va_S.rf, hWF⟩ ⟨fun _ _ => rfl, Nat.le_refl _, Nat.le_refl _⟩ hLo
    rw [Nat.sub_self, Nat.sub_self] at hG
    exact hG
  · cases h
/-- behind a call: what is left of the stack, the callee's answer -/
def jo_aft (o : Option jo_R) (ls rest : List Value) (w : jw_W) (n : Nat) : Option jo_O := match o with
  | some (r, w') => if rest.length ≤ 4 ∧ w'.1.1 ≤ 1000 ∧ (w.1.1 ≤ w'.1.1 ∧ w.1.2 ≤ w'.1.2) ∧ (w'.1.1 = w.1.1 ∨ (ls ++ rest).all (jw_ok w.1.1) = true) then some (.inl (n, ls, r.toList ++ rest, w')) else none
  | none => none
def jo_cs (na : Nat) (f : List Value → jw_W → Option jo_R) (n : Nat) : jo_P := fun ls st w => if na ≤ st.length then jo_aft (f (st.take na).reverse w) ls (st.drop na) w n else none
def jo_cv (ci na : Nat) (f : List Value → jw_W → Option jo_R) (n : Nat) : jo_P := fun ls st w => match (st.take na).reverse with
  | .ref k :: av => if na ≤ st.length ∧ k < w.1.1 ∧ (w.2.1 k).1 = ci + 3 then jo_aft (f (.ref k :: av) w) ls (st.drop na) w n else none
  | _ => none
def jo_ci (na : Nat) (f : List Value → jw_W → Option jo_R) (n : Nat) : jo_P := fun ls st w => match (st.take na).reverse with
  | .ref k :: av => if na ≤ st.length then jo_aft (f (.ref k :: av) w) ls (st.drop na) w n else none
  | _ => none
section CALL
variable {own : String} {cc : ByteArray} {nL : Nat} {ret : Option FieldType} {ini : Bool} {Ts : List Cond} {fr lo : Nat} {l : Launch} {pc : Nat}
theorem jc_aft {D : va_G} {cs : Nat → ClassId} {A : Nat → Prop} {as0 : Nat → Nat} {w0 : jw_W} {p : Program} {e : Env} {R : Room} {s : State} {m : MethodId} {args : Array Value} {below : List Frame} {meth : Method} {c : Code} {Q : State → Prop} (hC : jc_C own cc nL ret ini D cs Ts A p s m args meth c) {as : Nat → Nat} {w w' : jw_W} {H : Heap} {locs : List Loc} {la : Array Slot} {ls rest st0 : List Value} {r : Option Value} {a : Array Value} (hZ : jw_Z D cs as w A s.heap H locs) (hE : jw_E as0 w0 as w) (hL : jw_Lo as nL la ls)
    (hr : va_Run p l e R s m args below meth c H locs (w.1.1 - w0.1.1) (w.1.2 - w0.1.2) (w'.1.1 - w.1.1) (w'.1.2 - w.1.2) (F0 m pc la st0) (rest.map (jw_rn as)) (jc_Q D cs as w (va_A (jw_wl cs as w) H.size) r w' a) (va_A (jw_wl cs as w) H.size))
    (hok : rest.length ≤ 4 ∧ w'.1.1 ≤ 1000 ∧ (w.1.1 ≤ w'.1.1 ∧ w.1.2 ≤ w'.1.2) ∧ (w'.1.1 = w.1.1 ∨ (ls ++ rest).all (jw_ok w.1.1) = true)) (hG : jc_G D cs A as0 w0 nL p l e R s m args below meth c Q (pc + 3) ls (r.toList ++ rest) w') : W p l e R s m args below meth c H locs (w.1.1 - w0.1.1) (w.1.2 - w0.1.2) Q (F0 m pc la st0) := by
  intro T hT X
  obtain ⟨v, st₀, t, T', L, h0, X', hLc, e1, e2, ⟨⟨as', hE', hv, hP1, hD1, hWF1⟩, hz, hk⟩, st⟩ := hr T hT X
  have hv : v = r.map (jw_rn as') := by cases hv; rfl
  subst hv
  rw [h0] at hz hk
  rw [← e1] at hz hk hP1
  have hF : ∀ q, va_A (jw_wl cs as w) H.size q → A q := by
    intro q hq
    rcases hq with ⟨k, e', h'⟩ | h'
    · exact hZ.2.1.2 k (q, e') h'
    · exact hC.2.2.2.2.2.2.2.2.2.2 q (Nat.le_trans hZ.2.2.1.1 h')
  have hS : va_S A s.heap T'.heap (locs ++ L) :=
    ⟨Nat.le_trans hZ.2.2.1.1 hz, fun q h1 h2 => by rw [hk q (Nat.lt_of_lt_of_le h1 hZ.2.2.1.1) (fun z => h2 (hF q z))]; exact hZ.2.2.1.2.1 q h1 h2, fun q hq => by
      rcases List.mem_append.mp hq with h | h
      · exact hZ.2.2.1.2.2 q h
      · exact hF _ (hLc q h)⟩
  have hren : ∀ v ∈ ls ++ rest, jw_rn as' v = jw_rn as v := by
    rcases hok.2.2.2 with he | he
    · have : as' = as := funext fun k => hE'.1 k (by rw [he]; omega)
      intro v _
      rw [this]
    · intro v hv
      exact jw_rn_ok (n := w.1.1) (n' := w'.1.1) hE'.1 hok.2.1 (List.all_eq_true.mp he v hv)
  have hE2 : jw_E as0 w0 as' w' := by
    obtain ⟨a1, a2, a3⟩ := hE
    have b1 := hok.2.2.1.1
    have b2 := hok.2.2.1.2
    refine ⟨fun k hk => ?_, by omega, by omega⟩
    rw [hE'.1 k (by omega)]
    exact a1 k (by omega)
  have hG1 := hG as' T'.heap (locs ++ L) la ⟨hP1, hD1.weaken (fun k q _ h => hF q.1 h), hS, hWF1⟩ hE2 (hL.ren (fun v hv => hren v (List.mem_append_left _ hv)))
  have hst : (r.toList ++ rest).map (jw_rn as') = (r.map (jw_rn as')).toList ++ rest.map (jw_rn as) := by
    rw [List.map_append, jw_map_ren (fun v hv => hren v (List.mem_append_right _ hv))]
    cases r <;> rfl
  have c1 : w'.1.1 - w0.1.1 = w.1.1 - w0.1.1 + (w'.1.1 - w.1.1) := by have := hE.2.1; have := hok.2.2.1.1; omega
  have c2 : w'.1.2 - w0.1.2 = w.1.2 - w0.1.2 + (w'.1.2 - w.1.2) := by have := hE.2.2; have := hok.2.2.1.2; omega
  rw [hst, c1, c2] at hG1
  obtain ⟨t2, a1, b1⟩ := hG1 T' rfl X'
  exact ⟨t2, st t2 a1, b1⟩
theorem jw_blind {D : va_G} {cs : Nat → ClassId} {as : Nat → Nat} {w : jw_W} {av : List Value} {sz : Nat} : FrameBlind (va_Pc av (fun U => U.heap.size = sz ∧ jw_V D cs as w U)) := by
  intro a U g mk hq
  obtain ⟨q0, q1, qK, qN, qU⟩ := hq
  exact ⟨q0, q1, va_K.moved (u := U) (U := U.calling g mk a) (Vm.Alike.refl U.vm) qK, qN.warm (s := U) (U := U.calling g mk a) (State.WarmedH.refl U), qU⟩
theorem jw_pre {D : va_G} {cs : Nat → ClassId} {A : Nat → Prop} {p : Program} {s : State} {m : MethodId} {args : Array Value} {meth : Method} {c : Code} (hC : jc_C own cc nL ret ini D cs Ts A p s m args meth c) {as : Nat → Nat} {w : jw_W} {H : Heap} {locs : List Loc} {av : List Value} (hZ : jw_Z D cs as w A s.heap H locs) : ∀ U : State, U.heap = H → s.WarmedH U.vm → va_Pc av (fun U => U.heap.size = H.size ∧ jw_V D cs as w U) av.toArray U :=
  fun U hU hW => ⟨rfl, by rw [hU], va_K.moved hW.alike hC.2.2.2.2.2.2.2.2.1, hC.2.2.2.2.2.2.2.2.2.1.warm hW, by rw [hU]; exact hZ.1, hZ.2.1.weaken (fun _ _ _ _ => trivial), hZ.2.2.2⟩
theorem jw_rev {st : List Value} {na : Nat} {as : Nat → Nat} {vs : List Value} (h : (st.take na).reverse = vs) : st.map (jw_rn as) = (vs.map (jw_rn as)).reverse ++ (st.drop na).map (jw_rn as) := by
  subst h
  rw [List.map_reverse, List.reverse_reverse, ← List.map_append, List.take_append_drop]
/-- a callee: its name, code, locals, room; what its runs are -/
def jc_K (l : Launch) (y : MethodName) (bytes : ByteArray) (mL : Nat) (rt : Option FieldType) (fr lo : Nat) (f : List Value → jw_W → Option jo_R) : Prop := ∀ (av : List Value) (w : jw_W) (r : Option Value) (w' : jw_W), f av w = some (r, w') → jc_M l y (jc_ws y bytes mL rt) fr lo av w r w'
theorem js_cv {ci i n na mL fr' lo' : Nat} {y : MethodName} {bytes : ByteArray} {rt : Option FieldType} {f : List Value → jw_W → Option jo_R} {C : String} {T : u_T} {N : Nat} (hK : jc_K l y bytes mL rt fr' lo' f) (hsub : ∀ w ∈ jw_tb, w ∈ Ts) (hcl : vwCl[ci]? = some (C, T, N)) (hd : decode cc pc = .ok (.invokevirtual i, 3)) (h1 : Cond.methodLink own i y ∈ jw_tb) (h2 : Cond.instanceMethod y ∈ jw_tb) (h3 : Cond.selects C y y ∈ jw_tb) (h4 : Cond.initialized C ∈ jw_tb) (h5 : Cond.code y bytes mL rt ∈ jw_tb)
    (hy : y.cls = C ∧ y.cls ≠ "java/lang/invoke/MethodHandle" ∧ y.cls ≠ "java/lang/invoke/VarHandle" ∧ (parseMethodDescriptor y.desc).map (fun d => d.parameters.length) = some n) (hna : na = n + 1) (hR : fr' + 1 ≤ fr ∧ 8 + (mL + 11) + lo' ≤ lo) : jc_B own cc nL ret ini Ts fr lo l pc (jo_cv ci na f (pc + 3)) := by
  refine ⟨fun D cs A as0 w0 p e R s m args below meth c Q hC hfr hlo ls st w pc' ls' st' w' ho => ?_, fun D cs A as0 w0 p e R s m args below meth c hC ls st w r w' ho => ?_⟩
  · unfold jo_cv at ho
    split at ho
    · rename_i k av hav
      split at ho
      · rename_i hk
        unfold jo_aft at ho
        split at ho
        · rename_i r w1 hf
          split at ho
          · rename_i hok
            cases ho
            refine ⟨hok.2.2.1, fun hc hs hG as H locs la hZ hE hL => ?_⟩
            have hlen : av.length = n := by
              have := congrArg List.length hav
              simp at this
              omega
            have b1 := hE.2.1
            have b2 := hE.2.2
            have b3 := hok.2.2.1
            refine jc_aft hC hZ hE hL (a := ((Value.ref k :: av).map (jw_rn as)).toArray) (va_runV (As := av.map (jw_rn as)) (b := as k) ⟨hC.1, hC.2.1, hC.2.2.1, hC.2.2.2.1, hC.2.2.2.2.1⟩ (hK _ _ _ _ hf D cs as H.size) (cwV n hC.2.2.2.2.1 (jw_goodIn hsub ?_) rfl rfl rfl hy ⟨?_, ?_⟩) ⟨jw_blind, va_recv hC.2.2.2.2.2.2.2.2.1 hZ.1 hcl ((jw_at hk.2.1).trans (by rw [jw_ce_obj hk.2.2])), jw_pre hC hZ⟩ rfl (by rw [List.length_map]; exact hlen) hL.1 ?_ (lv_room (Nat.le_trans (jw_sum _) (by omega))) hd ⟨by omega, by omega⟩) hok hG
            · intro w9 hw9
              unfold wsV jc_ws at hw9
              simp only [List.mem_append, List.mem_cons, List.not_mem_nil, or_false] at hw9
              rcases hw9 with (rfl | rfl | rfl | rfl) | (rfl | h) <;> assumption
            · show fr' + 1 ≤ R.frames
              omega
            · show 8 + (mL + 11) + lo' ≤ R.locals
              omega
            · show st.map (jw_rn as) = _
              rw [jw_rev hav, List.map_cons, List.reverse_cons, List.append_assoc]
              rfl
          · cases ho
        · cases ho
      · cases ho
    · cases ho
  · unfold jo_cv at ho
    split at ho
    · split at ho
      · unfold jo_aft at ho
        split at ho
        · split at ho <;> cases ho
        · cases ho
      · cases ho
    · cases ho
end CALL
end
section
section CALL2
variable {own : String} {cc : ByteArray} {nL : Nat} {ret : Option FieldType} {ini : Bool} {Ts : List Cond} {fr lo : Nat} {l : Launch} {pc : Nat}
theorem js_cvN {host : String} {ci i n na mL fr' lo' : Nat} {y : MethodName} {bytes : ByteArray} {rt : Option FieldType} {f : List Value → jw_W → Option jo_R} {C : String} {T : u_T} {N : Nat} (hK : jc_K l y bytes mL rt fr' lo' f) (hsub : ∀ w ∈ jw_tb, w ∈ Ts) (hcl : vwCl[ci]? = some (C, T, N)) (hd : decode cc pc = .ok (.invokevirtual i, 3)) (h1 : Cond.methodLinkNest own i y host ∈ lw_tbl) (h2 : Cond.instanceMethod y ∈ jw_tb) (h3 : Cond.selects C y y ∈ jw_tb) (h4 : Cond.initialized y.cls ∈ jw_tb) (h5 : Cond.code y bytes mL rt ∈ jw_tb)
    (hy : y.cls ≠ "java/lang/invoke/MethodHandle" ∧ y.cls ≠ "java/lang/invoke/VarHandle" ∧ (parseMethodDescriptor y.desc).map (fun d => d.parameters.length) = some n) (hna : na = n + 1) (hR : fr' + 1 ≤ fr ∧ 8 + (mL + 11) + lo' ≤ lo) : jc_B own cc nL ret ini Ts fr lo l pc (jo_cv ci na f (pc + 3)) := by
  refine ⟨fun D cs A as0 w0 p e R s m args below meth c Q hC hfr hlo ls st w pc' ls' st' w' ho => ?_, fun D cs A as0 w0 p e R s m args below meth c hC ls st w r w' ho => ?_⟩
  · unfold jo_cv at ho
    split at ho
    · rename_i k av hav
      split at ho
      · rename_i hk
        unfold jo_aft at ho
        split at ho
        · rename_i r w1 hf
          split at ho
          · rename_i hok
            cases ho
            refine ⟨hok.2.2.1, fun hc hs hG as H locs la hZ hE hL => ?_⟩
            have hlen : av.length = n := by
              have := congrArg List.length hav
              simp at this
              omega
            have b1 := hE.2.1
            have b2 := hE.2.2
            have b3 := hok.2.2.1
            refine jc_aft hC hZ hE hL (a := ((Value.ref k :: av).map (jw_rn as)).toArray) (va_runVN (As := av.map (jw_rn as)) (b := as k) ⟨hC.1, hC.2.1, hC.2.2.1, hC.2.2.2.1, hC.2.2.2.2.1⟩ (hK _ _ _ _ hf D cs as H.size) ⟨va_cnB n hC.2.2.2.2.1 (jw_goodIn hsub ?_) rfl rfl rfl (hC.2.2.2.2.2.2.2.2.2.1.1 _ h1 rfl) (hC.2.2.2.2.1 _ (hsub _ h4)) hy ⟨?_, ?_⟩, hC.2.2.2.2.1 _ (hsub _ h2), hC.2.2.2.2.1 _ (hsub _ h3)⟩ ⟨jw_blind, va_recv hC.2.2.2.2.2.2.2.2.1 hZ.1 hcl ((jw_at hk.2.1).trans (by rw [jw_ce_obj hk.2.2])), jw_pre hC hZ⟩ rfl (by rw [List.length_map]; exact hlen) hL.1 ?_ (lv_room (Nat.le_trans (jw_sum _) (by omega))) hd ⟨by omega, by omega⟩) hok hG
            · intro w9 hw9
              unfold jc_ws at hw9
              simp only [List.mem_cons] at hw9
              rcases hw9 with rfl | h <;> assumption
            · show fr' + 1 ≤ R.frames
              omega
            · show 8 + (mL + 11) + lo' ≤ R.locals
              omega
            · show st.map (jw_rn as) = _
              rw [jw_rev hav, List.map_cons, List.reverse_cons, List.append_assoc]
              rfl
          · cases ho
        · cases ho
      · cases ho
    · cases ho
  · unfold jo_cv at ho
    split at ho
    · split at ho
      · unfold jo_aft at ho
        split at ho
        · split at ho <;> cases ho
        · cases ho
      · cases ho
    · cases ho
theorem js_ci {i n na mL fr' lo' : Nat} {y : MethodName} {bytes : ByteArray} {f : List Value → jw_W → Option jo_R} (hK : jc_K l y bytes mL none fr' lo' f) (hsub : ∀ w ∈ jw_tb, w ∈ Ts) (hd : decode cc pc = .ok (.invokespecial i, 3)) (h1 : Cond.methodLink own i y ∈ jw_tb) (h2 : Cond.instanceMethod y ∈ jw_tb) (h3 : y.name = "<init>") (h4 : Cond.initialized y.cls ∈ jw_tb) (h5 : Cond.code y bytes mL none ∈ jw_tb)
    (hy : y.cls ≠ "java/lang/invoke/MethodHandle" ∧ y.cls ≠ "java/lang/invoke/VarHandle" ∧ (parseMethodDescriptor y.desc).map (fun d => d.parameters.length) = some n) (hna : na = n + 1) (hR : fr' + 1 ≤ fr ∧ 8 + (mL + 11) + lo' ≤ lo) : jc_B own cc nL ret ini Ts fr lo l pc (jo_ci na f (pc + 3)) := by
  refine ⟨fun D cs A as0 w0 p e R s m args below meth c Q hC hfr hlo ls st w pc' ls' st' w' ho => ?_, fun D cs A as0 w0 p e R s m args below meth c hC ls st w r w' ho => ?_⟩
  · unfold jo_ci at ho
    split at ho
    · rename_i k av hav
      split at ho
      · rename_i hk
        unfold jo_aft at ho
        split at ho
        · rename_i r w1 hf
          split at ho
          · rename_i hok
            cases ho
            refine ⟨hok.2.2.1, fun hc hs hG as H locs la hZ hE hL => ?_⟩
            have hlen : av.length = n := by
              have := congrArg List.length hav
              simp at this
              omega
            have b1 := hE.2.1
            have b2 := hE.2.2
            have b3 := hok.2.2.1
            refine jc_aft hC hZ hE hL (a := ((Value.ref k :: av).map (jw_rn as)).toArray) (va_runI (As := av.map (jw_rn as)) (b := as k) ⟨hC.1, hC.2.1, hC.2.2.1, hC.2.2.2.1, hC.2.2.2.2.1⟩ (hK _ _ _ _ hf D cs as H.size) (cwI n hC.2.2.2.2.1 (jw_goodIn hsub ?_) rfl rfl rfl (hC.2.2.2.2.1 _ (hsub _ h4)) (hC.2.2.2.2.1 _ (hsub _ h1)) (hC.2.2.2.2.1 _ (hsub _ h2)) h3 hy ⟨?_, ?_⟩) ⟨jw_blind, jw_pre hC hZ⟩ rfl (by rw [List.length_map]; exact hlen) hL.1 ?_ (lv_room (Nat.le_trans (jw_sum _) (by omega))) hd ⟨by omega, by omega⟩) hok hG
            · intro w9 hw9
              unfold jc_ws at hw9
              simp only [List.mem_cons] at hw9
              rcases hw9 with rfl | h <;> assumption
            · show fr' + 1 ≤ R.frames
              omega
            · show 8 + (mL + 11) + lo' ≤ R.locals
              omega
            · show st.map (jw_rn as) = _
              rw [jw_rev hav, List.map_cons, List.reverse_cons, List.append_assoc]
              rfl
          · cases ho
        · cases ho
      · cases ho
    · cases ho
  · unfold jo_ci at ho
    split at ho
    · split at ho
      · unfold jo_aft at ho
        split at ho
        · split at ho <;> cases ho
        · cases ho
      · cases ho
    · cases ho
theorem js_ciN {host : String} {i n na mL fr' lo' : Nat} {y : MethodName} {bytes : ByteArray} {f : List Value → jw_W → Option jo_R} (hK : jc_K l y bytes mL none fr' lo' f) (hsub : ∀ w ∈ jw_tb, w ∈ Ts) (hd : decode cc pc = .ok (.invokespecial i, 3)) (h1 : Cond.methodLinkNest own i y host ∈ lw_tbl) (h2 : Cond.instanceMethod y ∈ jw_tb) (h3 : y.name = "<init>") (h4 : Cond.initialized y.cls ∈ jw_tb) (h5 : Cond.code y bytes mL none ∈ jw_tb)
    (hy : y.cls ≠ "java/lang/invoke/MethodHandle" ∧ y.cls ≠ "java/lang/invoke/VarHandle" ∧ (parseMethodDescriptor y.desc).map (fun d => d.parameters.length) = some n) (hna : na = n + 1) (hR : fr' + 1 ≤ fr ∧ 8 + (mL + 11) + lo' ≤ lo) : jc_B own cc nL ret ini Ts fr lo l pc (jo_ci na f (pc + 3)) := by
  refine ⟨fun D cs A as0 w0 p e R s m args below meth c Q hC hfr hlo ls st w pc' ls' st' w' ho => ?_, fun D cs A as0 w0 p e R s m args below meth c hC ls st w r w' ho => ?_⟩
  · unfold jo_ci at ho
    split at ho
    · rename_i k av hav
      split at ho
      · rename_i hk
        unfold jo_aft at ho
        split at ho
        · rename_i r w1 hf
          split at ho
          · rename_i hok
            cases ho
            refine ⟨hok.2.2.1, fun hc hs hG as H locs la hZ hE hL => ?_⟩
            have hlen : av.length = n := by
              have := congrArg List.length hav
              simp at this
              omega
            have b1 := hE.2.1
            have b2 := hE.2.2
            have b3 := hok.2.2.1
            refine jc_aft hC hZ hE hL (a := ((Value.ref k :: av).map (jw_rn as)).toArray) (va_runIN (As := av.map (jw_rn as)) (b := as k) ⟨hC.1, hC.2.1, hC.2.2.1, hC.2.2.2.1, hC.2.2.2.2.1⟩ (hK _ _ _ _ hf D cs as H.size) ⟨va_cnB n hC.2.2.2.2.1 (jw_goodIn hsub ?_) rfl rfl rfl (hC.2.2.2.2.2.2.2.2.2.1.1 _ h1 rfl) (hC.2.2.2.2.1 _ (hsub _ h4)) hy ⟨?_, ?_⟩, h3, hC.2.2.2.2.1 _ (hsub _ h2)⟩ ⟨jw_blind, jw_pre hC hZ⟩ rfl (by rw [List.length_map]; exact hlen) hL.1 ?_ (lv_room (Nat.le_trans (jw_sum _) (by omega))) hd ⟨by omega, by omega⟩) hok hG
            · intro w9 hw9
              unfold jc_ws at hw9
              simp only [List.mem_cons] at hw9
              rcases hw9 with rfl | h <;> assumption
            · show fr' + 1 ≤ R.frames
              omega
            · show 8 + (mL + 11) + lo' ≤ R.locals
              omega
            · show st.map (jw_rn as) = _
              rw [jw_rev hav, List.map_cons, List.reverse_cons, List.append_assoc]
              rfl
          · cases ho
        · cases ho
      · cases ho
    · cases ho
  · unfold jo_ci at ho
    split at ho
    · split at ho
      · unfold jo_aft at ho
        split at ho
        · split at ho <;> cases ho
        · cases ho
      · cases ho
    · cases ho
theorem js_cs {i n na mL fr' lo' : Nat} {y : MethodName} {bytes : ByteArray} {rt : Option FieldType} {f : List Value → jw_W → Option jo_R} (hK : jc_K l y bytes mL rt fr' lo' f) (hsub : ∀ w ∈ jw_tb, w ∈ Ts) (hd : decode cc pc = .ok (.invokestatic i, 3)) (h1 : Cond.methodLink own i y ∈ jw_tb) (h2 : Cond.static y ∈ jw_tb) (h4 : Cond.initialized y.cls ∈ jw_tb) (h5 : Cond.code y bytes mL rt ∈ jw_tb)
    (hy : y.cls ≠ "java/lang/invoke/MethodHandle" ∧ y.cls ≠ "java/lang/invoke/VarHandle" ∧ (parseMethodDescriptor y.desc).map (fun d => d.parameters.length) = some n) (hna : na = n) (hR : fr' + 1 ≤ fr ∧ 8 + (mL + 11) + lo' ≤ lo) : jc_B own cc nL ret ini Ts fr lo l pc (jo_cs na f (pc + 3)) := by
  refine ⟨fun D cs A as0 w0 p e R s m args below meth c Q hC hfr hlo ls st w pc' ls' st' w' ho => ?_, fun D cs A as0 w0 p e R s m args below meth c hC ls st w r w' ho => ?_⟩
  · unfold jo_cs at ho
    split at ho
    · rename_i hk
      · unfold jo_aft at ho
        split at ho
        · rename_i r w1 hf
          split at ho
          · rename_i hok
            cases ho
            refine ⟨hok.2.2.1, fun hc hs hG as H locs la hZ hE hL => ?_⟩
            have hlen : ((st.take na).reverse).length = n := by
              simp
              omega
            have b1 := hE.2.1
            have b2 := hE.2.2
            have b3 := hok.2.2.1
            refine jc_aft hC hZ hE hL (a := (((st.take na).reverse).map (jw_rn as)).toArray) (va_runS (As := ((st.take na).reverse).map (jw_rn as)) ⟨hC.1, hC.2.1, hC.2.2.1, hC.2.2.2.1, hC.2.2.2.2.1⟩ (hK _ _ _ _ hf D cs as H.size) ⟨callB_of n hC.2.2.2.2.1 (jw_goodIn hsub ?_) rfl rfl rfl (hC.2.2.2.2.1 _ (hsub _ h4)) (hC.2.2.2.2.1 _ (hsub _ h1)) hy ⟨?_, ?_⟩, hC.2.2.2.2.1 _ (hsub _ h2)⟩ ⟨jw_blind, jw_pre hC hZ⟩ rfl (by rw [List.length_map]; exact hlen) hL.1 ?_ (lv_room (Nat.le_trans (jw_sum _) (by omega))) hd ⟨by omega, by omega⟩) hok hG
            · intro w9 hw9
              unfold jc_ws at hw9
              simp only [List.mem_cons] at hw9
              rcases hw9 with rfl | h <;> assumption
            · show fr' + 1 ≤ R.frames
              omega
            · show 8 + (mL + 11) + lo' ≤ R.locals
              omega
            · show st.map (jw_rn as) = _
              exact jw_rev rfl
          · cases ho
        · cases ho
    · cases ho
  · unfold jo_cs at ho
    split at ho
    · unfold jo_aft at ho
      split at ho
      · split at ho <;> cases ho
      · cases ho
    · cases ho
theorem js_csN {host : String} {i n na mL fr' lo' : Nat} {y : MethodName} {bytes : ByteArray} {rt : Option FieldType} {f : List Value → jw_W → Option jo_R} (hK : jc_K l y bytes mL rt fr' lo' f) (hsub : ∀ w ∈ jw_tb, w ∈ Ts) (hd : decode cc pc = .ok (.invokestatic i, 3)) (h1 : Cond.methodLinkNest own i y host ∈ lw_tbl) (h2 : Cond.static y ∈ jw_tb) (h4 : Cond.initialized y.cls ∈ jw_tb) (h5 : Cond.code y bytes mL rt ∈ jw_tb)
    (hy : y.cls ≠ "java/lang/invoke/MethodHandle" ∧ y.cls ≠ "java/lang/invoke/VarHandle" ∧ (parseMethodDescriptor y.desc).map (fun d => d.parameters.length) = some n) (hna : na = n) (hR : fr' + 1 ≤ fr ∧ 8 + (mL + 11) + lo' ≤ lo) : jc_B own cc nL ret ini Ts fr lo l pc (jo_cs na f (pc + 3)) := by
  refine ⟨fun D cs A as0 w0 p e R s m args below meth c Q hC hfr hlo ls st w pc' ls' st' w' ho => ?_, fun D cs A as0 w0 p e R s m args below meth c hC ls st w r w' ho => ?_⟩
  · unfold jo_cs at ho
    split at ho
    · rename_i hk
      · unfold jo_aft at ho
        split at ho
        · rename_i r w1 hf
          split at ho
          · rename_i hok
            cases ho
            refine ⟨hok.2.2.1, fun hc hs hG as H locs la hZ hE hL => ?_⟩
            have hlen : ((st.take na).reverse).length = n := by
              simp
              omega
            have b1 := hE.2.1
            have b2 := hE.2.2
            have b3 := hok.2.2.1
            refine jc_aft hC hZ hE hL (a := (((st.take na).reverse).map (jw_rn as)).toArray) (va_runSN (As := ((st.take na).reverse).map (jw_rn as)) ⟨hC.1, hC.2.1, hC.2.2.1, hC.2.2.2.1, hC.2.2.2.2.1⟩ (hK _ _ _ _ hf D cs as H.size) ⟨va_cnB n hC.2.2.2.2.1 (jw_goodIn hsub ?_) rfl rfl rfl (hC.2.2.2.2.2.2.2.2.2.1.1 _ h1 rfl) (hC.2.2.2.2.1 _ (hsub _ h4)) hy ⟨?_, ?_⟩, hC.2.2.2.2.1 _ (hsub _ h2), trivial⟩ ⟨jw_blind, jw_pre hC hZ⟩ rfl (by rw [List.length_map]; exact hlen) hL.1 ?_ (lv_room (Nat.le_trans (jw_sum _) (by omega))) hd ⟨by omega, by omega⟩) hok hG
            · intro w9 hw9
              unfold jc_ws at hw9
              simp only [List.mem_cons] at hw9
              rcases hw9 with rfl | h <;> assumption
            · show fr' + 1 ≤ R.frames
              omega
            · show 8 + (mL + 11) + lo' ≤ R.locals
              omega
            · show st.map (jw_rn as) = _
              exact jw_rev rfl
          · cases ho
        · cases ho
    · cases ho
  · unfold jo_cs at ho
    split at ho
    · unfold jo_aft at ho
      split at ho
      · split at ho <;> cases ho
      · cases ho
    · cases ho
end CALL2
end
