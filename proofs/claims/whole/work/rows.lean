section
-- ===== PART A: goes FIRST, ahead of the names: the tables' words, and 'selects' of the private methods out of them =====
/-- a private method of a class that the tables say can be made, by its rows of tables_1 -/
def lw_okq (q : MethodName × Nat) : Prop := (q.1.cls ≠ "java/lang/invoke/MethodHandle" ∧ q.1.cls ≠ "java/lang/invoke/VarHandle") ∧ Cond.instantiable q.1.cls q.2 ∈ tables_1 ∧ Cond.privateMethod q.1 ∈ tables_1 ∧ Cond.instanceMethod q.1 ∈ tables_1
theorem lw_p0 : lw_okq (⟨"PulsedAxes$Piece", "remaining", "()I"⟩, 9) := ⟨⟨by decide +kernel, by decide +kernel⟩, List.mem_of_getElem? (i := 33) (by decide +kernel), List.mem_of_getElem? (i := 256) (by decide +kernel), List.mem_of_getElem? (i := 257) (by decide +kernel)⟩
theorem lw_p1 : lw_okq (⟨"PulsedAxes$Piece", "total", "()I"⟩, 9) := ⟨⟨by decide +kernel, by decide +kernel⟩, List.mem_of_getElem? (i := 33) (by decide +kernel), List.mem_of_getElem? (i := 260) (by decide +kernel), List.mem_of_getElem? (i := 261) (by decide +kernel)⟩
theorem lw_p2 : lw_okq (⟨"PulsedAxes$Piece", "isArc", "()Z"⟩, 9) := ⟨⟨by decide +kernel, by decide +kernel⟩, List.mem_of_getElem? (i := 33) (by decide +kernel), List.mem_of_getElem? (i := 264) (by decide +kernel), List.mem_of_getElem? (i := 265) (by decide +kernel)⟩
theorem lw_p3 : lw_okq (⟨"PulsedAxes$Piece", "turns", "()I"⟩, 9) := ⟨⟨by decide +kernel, by decide +kernel⟩, List.mem_of_getElem? (i := 33) (by decide +kernel), List.mem_of_getElem? (i := 271) (by decide +kernel), List.mem_of_getElem? (i := 272) (by decide +kernel)⟩
theorem lw_p4 : lw_okq (⟨"PulsedAxes$Reader", "append", "(C)Z"⟩, 6) := ⟨⟨by decide +kernel, by decide +kernel⟩, List.mem_of_getElem? (i := 156) (by decide +kernel), List.mem_of_getElem? (i := 283) (by decide +kernel), List.mem_of_getElem? (i := 284) (by decide +kernel)⟩
theorem lw_p5 : lw_okq (⟨"PulsedAxes$Reader", "readPlan", "()Z"⟩, 6) := ⟨⟨by decide +kernel, by decide +kernel⟩, List.mem_of_getElem? (i := 156) (by decide +kernel), List.mem_of_getElem? (i := 292) (by decide +kernel), List.mem_of_getElem? (i := 293) (by decide +kernel)⟩
theorem lw_p6 : lw_okq (⟨"PulsedAxes$Reader", "atEnd", "()Z"⟩, 6) := ⟨⟨by decide +kernel, by decide +kernel⟩, List.mem_of_getElem? (i := 156) (by decide +kernel), List.mem_of_getElem? (i := 296) (by decide +kernel), List.mem_of_getElem? (i := 297) (by decide +kernel)⟩
theorem lw_p7 : lw_okq (⟨"PulsedAxes$Reader", "readPiece", "(I)Z"⟩, 6) := ⟨⟨by decide +kernel, by decide +kernel⟩, List.mem_of_getElem? (i := 156) (by decide +kernel), List.mem_of_getElem? (i := 300) (by decide +kernel), List.mem_of_getElem? (i := 301) (by decide +kernel)⟩
theorem lw_p8 : lw_okq (⟨"PulsedAxes$Reader", "readSign", "(C)Z"⟩, 6) := ⟨⟨by decide +kernel, by decide +kernel⟩, List.mem_of_getElem? (i := 156) (by decide +kernel), List.mem_of_getElem? (i := 389) (by decide +kernel), List.mem_of_getElem? (i := 390) (by decide +kernel)⟩
theorem lw_p9 : lw_okq (⟨"PulsedAxes$Reader", "readNumber", "(I)Z"⟩, 6) := ⟨⟨by decide +kernel, by decide +kernel⟩, List.mem_of_getElem? (i := 156) (by decide +kernel), List.mem_of_getElem? (i := 393) (by decide +kernel), List.mem_of_getElem? (i := 394) (by decide +kernel)⟩
theorem lw_p10 : lw_okq (⟨"PulsedAxes$Reader", "digitIsNext", "()Z"⟩, 6) := ⟨⟨by decide +kernel, by decide +kernel⟩, List.mem_of_getElem? (i := 156) (by decide +kernel), List.mem_of_getElem? (i := 397) (by decide +kernel), List.mem_of_getElem? (i := 398) (by decide +kernel)⟩
theorem lw_p11 : lw_okq (⟨"PulsedAxes$Piece", "tell", "(IIII)V"⟩, 9) := ⟨⟨by decide +kernel, by decide +kernel⟩, List.mem_of_getElem? (i := 33) (by decide +kernel), List.mem_of_getElem? (i := 410) (by decide +kernel), List.mem_of_getElem? (i := 411) (by decide +kernel)⟩
theorem lw_p12 : lw_okq (⟨"PulsedAxes$State", "clear", "()V"⟩, 7) := ⟨⟨by decide +kernel, by decide +kernel⟩, List.mem_of_getElem? (i := 26) (by decide +kernel), List.mem_of_getElem? (i := 415) (by decide +kernel), List.mem_of_getElem? (i := 416) (by decide +kernel)⟩
theorem lw_p13 : lw_okq (⟨"PulsedAxes$State", "addLast", "(IIII)V"⟩, 7) := ⟨⟨by decide +kernel, by decide +kernel⟩, List.mem_of_getElem? (i := 26) (by decide +kernel), List.mem_of_getElem? (i := 419) (by decide +kernel), List.mem_of_getElem? (i := 420) (by decide +kernel)⟩
theorem lw_p14 : lw_okq (⟨"PulsedAxes$State", "remaining", "()I"⟩, 7) := ⟨⟨by decide +kernel, by decide +kernel⟩, List.mem_of_getElem? (i := 26) (by decide +kernel), List.mem_of_getElem? (i := 429) (by decide +kernel), List.mem_of_getElem? (i := 430) (by decide +kernel)⟩
theorem lw_p15 : lw_okq (⟨"PulsedAxes$State", "kinds", "()I"⟩, 7) := ⟨⟨by decide +kernel, by decide +kernel⟩, List.mem_of_getElem? (i := 26) (by decide +kernel), List.mem_of_getElem? (i := 434) (by decide +kernel), List.mem_of_getElem? (i := 435) (by decide +kernel)⟩
def lw_privs_1 : List (MethodName × Nat) := [(⟨"PulsedAxes$Piece", "remaining", "()I"⟩, 9), (⟨"PulsedAxes$Piece", "total", "()I"⟩, 9), (⟨"PulsedAxes$Piece", "isArc", "()Z"⟩, 9), (⟨"PulsedAxes$Piece", "turns", "()I"⟩, 9), (⟨"PulsedAxes$Reader", "append", "(C)Z"⟩, 6), (⟨"PulsedAxes$Reader", "readPlan", "()Z"⟩, 6), (⟨"PulsedAxes$Reader", "atEnd", "()Z"⟩, 6), (⟨"PulsedAxes$Reader", "readPiece", "(I)Z"⟩, 6), (⟨"PulsedAxes$Reader", "readSign", "(C)Z"⟩, 6), (⟨"PulsedAxes$Reader", "readNumber", "(I)Z"⟩, 6), (⟨"PulsedAxes$Reader", "digitIsNext", "()Z"⟩, 6), (⟨"PulsedAxes$Piece", "tell", "(IIII)V"⟩, 9), (⟨"PulsedAxes$State", "clear", "()V"⟩, 7), (⟨"PulsedAxes$State", "addLast", "(IIII)V"⟩, 7), (⟨"PulsedAxes$State", "remaining", "()I"⟩, 7), (⟨"PulsedAxes$State", "kinds", "()I"⟩, 7)]
theorem lw_r1 : ∀ q ∈ lw_privs_1, lw_okq q := List.forall_mem_cons.mpr ⟨lw_p0, List.forall_mem_cons.mpr ⟨lw_p1, List.forall_mem_cons.mpr ⟨lw_p2, List.forall_mem_cons.mpr ⟨lw_p3, List.forall_mem_cons.mpr ⟨lw_p4, List.forall_mem_cons.mpr ⟨lw_p5, List.forall_mem_cons.mpr ⟨lw_p6, List.forall_mem_cons.mpr ⟨lw_p7, List.forall_mem_cons.mpr ⟨lw_p8, List.forall_mem_cons.mpr ⟨lw_p9, List.forall_mem_cons.mpr ⟨lw_p10, List.forall_mem_cons.mpr ⟨lw_p11, List.forall_mem_cons.mpr ⟨lw_p12, List.forall_mem_cons.mpr ⟨lw_p13, List.forall_mem_cons.mpr ⟨lw_p14, List.forall_mem_cons.mpr ⟨lw_p15, fun _ h => absurd h List.not_mem_nil⟩⟩⟩⟩⟩⟩⟩⟩⟩⟩⟩⟩⟩⟩⟩⟩
theorem lw_p16 : lw_okq (⟨"PulsedAxes", "newcomerRefusal", "(IIII)I"⟩, 9) := ⟨⟨by decide +kernel, by decide +kernel⟩, List.mem_of_getElem? (i := 18) (by decide +kernel), List.mem_of_getElem? (i := 442) (by decide +kernel), List.mem_of_getElem? (i := 443) (by decide +kernel)⟩
theorem lw_p17 : lw_okq (⟨"PulsedAxes$Past", "keep", "(LPulsedAxes$State;)V"⟩, 2) := ⟨⟨by decide +kernel, by decide +kernel⟩, List.mem_of_getElem? (i := 110) (by decide +kernel), List.mem_of_getElem? (i := 447) (by decide +kernel), List.mem_of_getElem? (i := 448) (by decide +kernel)⟩
theorem lw_p18 : lw_okq (⟨"PulsedAxes$Past", "forgetOldest", "()V"⟩, 2) := ⟨⟨by decide +kernel, by decide +kernel⟩, List.mem_of_getElem? (i := 110) (by decide +kernel), List.mem_of_getElem? (i := 451) (by decide +kernel), List.mem_of_getElem? (i := 452) (by decide +kernel)⟩
theorem lw_p19 : lw_okq (⟨"PulsedAxes$State", "copyFrom", "(LPulsedAxes$State;)V"⟩, 7) := ⟨⟨by decide +kernel, by decide +kernel⟩, List.mem_of_getElem? (i := 26) (by decide +kernel), List.mem_of_getElem? (i := 455) (by decide +kernel), List.mem_of_getElem? (i := 456) (by decide +kernel)⟩
theorem lw_p20 : lw_okq (⟨"PulsedAxes$Piece", "copyFrom", "(LPulsedAxes$Piece;)V"⟩, 9) := ⟨⟨by decide +kernel, by decide +kernel⟩, List.mem_of_getElem? (i := 33) (by decide +kernel), List.mem_of_getElem? (i := 462) (by decide +kernel), List.mem_of_getElem? (i := 463) (by decide +kernel)⟩
theorem lw_p21 : lw_okq (⟨"PulsedAxes$State", "addFirst", "(IIII)V"⟩, 7) := ⟨⟨by decide +kernel, by decide +kernel⟩, List.mem_of_getElem? (i := 26) (by decide +kernel), List.mem_of_getElem? (i := 470) (by decide +kernel), List.mem_of_getElem? (i := 471) (by decide +kernel)⟩
theorem lw_p22 : lw_okq (⟨"PulsedAxes$State", "removeAll", "(I)I"⟩, 7) := ⟨⟨by decide +kernel, by decide +kernel⟩, List.mem_of_getElem? (i := 26) (by decide +kernel), List.mem_of_getElem? (i := 479) (by decide +kernel), List.mem_of_getElem? (i := 480) (by decide +kernel)⟩
theorem lw_p23 : lw_okq (⟨"PulsedAxes$State", "removeAt", "(I)V"⟩, 7) := ⟨⟨by decide +kernel, by decide +kernel⟩, List.mem_of_getElem? (i := 26) (by decide +kernel), List.mem_of_getElem? (i := 483) (by decide +kernel), List.mem_of_getElem? (i := 484) (by decide +kernel)⟩
theorem lw_p24 : lw_okq (⟨"PulsedAxes", "doSteps", "(I)I"⟩, 9) := ⟨⟨by decide +kernel, by decide +kernel⟩, List.mem_of_getElem? (i := 18) (by decide +kernel), List.mem_of_getElem? (i := 499) (by decide +kernel), List.mem_of_getElem? (i := 500) (by decide +kernel)⟩
theorem lw_p25 : lw_okq (⟨"PulsedAxes$Walk", "begin", "()V"⟩, 6) := ⟨⟨by decide +kernel, by decide +kernel⟩, List.mem_of_getElem? (i := 127) (by decide +kernel), List.mem_of_getElem? (i := 503) (by decide +kernel), List.mem_of_getElem? (i := 504) (by decide +kernel)⟩
theorem lw_p26 : lw_okq (⟨"PulsedAxes$Walk", "advance", "()Z"⟩, 6) := ⟨⟨by decide +kernel, by decide +kernel⟩, List.mem_of_getElem? (i := 127) (by decide +kernel), List.mem_of_getElem? (i := 509) (by decide +kernel), List.mem_of_getElem? (i := 510) (by decide +kernel)⟩
theorem lw_p27 : lw_okq (⟨"PulsedAxes$Walk", "takeNext", "()Z"⟩, 6) := ⟨⟨by decide +kernel, by decide +kernel⟩, List.mem_of_getElem? (i := 127) (by decide +kernel), List.mem_of_getElem? (i := 513) (by decide +kernel), List.mem_of_getElem? (i := 514) (by decide +kernel)⟩
theorem lw_p28 : lw_okq (⟨"PulsedAxes$Piece", "advance", "([I)V"⟩, 9) := ⟨⟨by decide +kernel, by decide +kernel⟩, List.mem_of_getElem? (i := 33) (by decide +kernel), List.mem_of_getElem? (i := 517) (by decide +kernel), List.mem_of_getElem? (i := 518) (by decide +kernel)⟩
theorem lw_p29 : lw_okq (⟨"PulsedAxes$Piece", "advanceArc", "([I)V"⟩, 9) := ⟨⟨by decide +kernel, by decide +kernel⟩, List.mem_of_getElem? (i := 33) (by decide +kernel), List.mem_of_getElem? (i := 521) (by decide +kernel), List.mem_of_getElem? (i := 522) (by decide +kernel)⟩
theorem lw_p30 : lw_okq (⟨"PulsedAxes$Piece", "offCircle", "(II)I"⟩, 9) := ⟨⟨by decide +kernel, by decide +kernel⟩, List.mem_of_getElem? (i := 33) (by decide +kernel), List.mem_of_getElem? (i := 528) (by decide +kernel), List.mem_of_getElem? (i := 529) (by decide +kernel)⟩
theorem lw_p31 : lw_okq (⟨"PulsedAxes$Piece", "advanceEven", "([I)V"⟩, 9) := ⟨⟨by decide +kernel, by decide +kernel⟩, List.mem_of_getElem? (i := 33) (by decide +kernel), List.mem_of_getElem? (i := 532) (by decide +kernel), List.mem_of_getElem? (i := 533) (by decide +kernel)⟩
def lw_privs_2 : List (MethodName × Nat) := [(⟨"PulsedAxes", "newcomerRefusal", "(IIII)I"⟩, 9), (⟨"PulsedAxes$Past", "keep", "(LPulsedAxes$State;)V"⟩, 2), (⟨"PulsedAxes$Past", "forgetOldest", "()V"⟩, 2), (⟨"PulsedAxes$State", "copyFrom", "(LPulsedAxes$State;)V"⟩, 7), (⟨"PulsedAxes$Piece", "copyFrom", "(LPulsedAxes$Piece;)V"⟩, 9), (⟨"PulsedAxes$State", "addFirst", "(IIII)V"⟩, 7), (⟨"PulsedAxes$State", "removeAll", "(I)I"⟩, 7), (⟨"PulsedAxes$State", "removeAt", "(I)V"⟩, 7), (⟨"PulsedAxes", "doSteps", "(I)I"⟩, 9), (⟨"PulsedAxes$Walk", "begin", "()V"⟩, 6), (⟨"PulsedAxes$Walk", "advance", "()Z"⟩, 6), (⟨"PulsedAxes$Walk", "takeNext", "()Z"⟩, 6), (⟨"PulsedAxes$Piece", "advance", "([I)V"⟩, 9), (⟨"PulsedAxes$Piece", "advanceArc", "([I)V"⟩, 9), (⟨"PulsedAxes$Piece", "offCircle", "(II)I"⟩, 9), (⟨"PulsedAxes$Piece", "advanceEven", "([I)V"⟩, 9)]
theorem lw_r2 : ∀ q ∈ lw_privs_2, lw_okq q := List.forall_mem_cons.mpr ⟨lw_p16, List.forall_mem_cons.mpr ⟨lw_p17, List.forall_mem_cons.mpr ⟨lw_p18, List.forall_mem_cons.mpr ⟨lw_p19, List.forall_mem_cons.mpr ⟨lw_p20, List.forall_mem_cons.mpr ⟨lw_p21, List.forall_mem_cons.mpr ⟨lw_p22, List.forall_mem_cons.mpr ⟨lw_p23, List.forall_mem_cons.mpr ⟨lw_p24, List.forall_mem_cons.mpr ⟨lw_p25, List.forall_mem_cons.mpr ⟨lw_p26, List.forall_mem_cons.mpr ⟨lw_p27, List.forall_mem_cons.mpr ⟨lw_p28, List.forall_mem_cons.mpr ⟨lw_p29, List.forall_mem_cons.mpr ⟨lw_p30, List.forall_mem_cons.mpr ⟨lw_p31, fun _ h => absurd h List.not_mem_nil⟩⟩⟩⟩⟩⟩⟩⟩⟩⟩⟩⟩⟩⟩⟩⟩
theorem lw_p32 : lw_okq (⟨"PulsedAxes$Piece", "gone", "(II)I"⟩, 9) := ⟨⟨by decide +kernel, by decide +kernel⟩, List.mem_of_getElem? (i := 33) (by decide +kernel), List.mem_of_getElem? (i := 536) (by decide +kernel), List.mem_of_getElem? (i := 537) (by decide +kernel)⟩
theorem lw_p33 : lw_okq (⟨"PulsedAxes$Piece", "way", "(I)I"⟩, 9) := ⟨⟨by decide +kernel, by decide +kernel⟩, List.mem_of_getElem? (i := 33) (by decide +kernel), List.mem_of_getElem? (i := 540) (by decide +kernel), List.mem_of_getElem? (i := 541) (by decide +kernel)⟩
theorem lw_p34 : lw_okq (⟨"PulsedAxes$Walk", "settle", "()V"⟩, 6) := ⟨⟨by decide +kernel, by decide +kernel⟩, List.mem_of_getElem? (i := 127) (by decide +kernel), List.mem_of_getElem? (i := 549) (by decide +kernel), List.mem_of_getElem? (i := 550) (by decide +kernel)⟩
theorem lw_p35 : lw_okq (⟨"PulsedAxes", "driftOnce", "()V"⟩, 9) := ⟨⟨by decide +kernel, by decide +kernel⟩, List.mem_of_getElem? (i := 18) (by decide +kernel), List.mem_of_getElem? (i := 558) (by decide +kernel), List.mem_of_getElem? (i := 559) (by decide +kernel)⟩
theorem lw_p36 : lw_okq (⟨"PulsedAxes$Past", "takeBack", "(LPulsedAxes$State;)V"⟩, 2) := ⟨⟨by decide +kernel, by decide +kernel⟩, List.mem_of_getElem? (i := 110) (by decide +kernel), List.mem_of_getElem? (i := 568) (by decide +kernel), List.mem_of_getElem? (i := 569) (by decide +kernel)⟩
theorem lw_p37 : lw_okq (⟨"PulsedAxes$Piece", "raiseOff", "(LPulsedAxes$Fraction;)V"⟩, 9) := ⟨⟨by decide +kernel, by decide +kernel⟩, List.mem_of_getElem? (i := 33) (by decide +kernel), List.mem_of_getElem? (i := 620) (by decide +kernel), List.mem_of_getElem? (i := 621) (by decide +kernel)⟩
theorem lw_p38 : lw_okq (⟨"PulsedAxes$Fraction", "raise", "(II)V"⟩, 2) := ⟨⟨by decide +kernel, by decide +kernel⟩, List.mem_of_getElem? (i := 605) (by decide +kernel), List.mem_of_getElem? (i := 624) (by decide +kernel), List.mem_of_getElem? (i := 625) (by decide +kernel)⟩
theorem lw_p39 : lw_okq (⟨"PulsedAxes$Fraction", "lowest", "(I)I"⟩, 2) := ⟨⟨by decide +kernel, by decide +kernel⟩, List.mem_of_getElem? (i := 605) (by decide +kernel), List.mem_of_getElem? (i := 628) (by decide +kernel), List.mem_of_getElem? (i := 629) (by decide +kernel)⟩
theorem lw_p40 : lw_okq (⟨"PulsedAxes$Fraction", "commonDivisor", "()I"⟩, 2) := ⟨⟨by decide +kernel, by decide +kernel⟩, List.mem_of_getElem? (i := 605) (by decide +kernel), List.mem_of_getElem? (i := 632) (by decide +kernel), List.mem_of_getElem? (i := 633) (by decide +kernel)⟩
theorem lw_p41 : lw_okq (⟨"PulsedAxes", "gatherMoves", "(I)V"⟩, 9) := ⟨⟨by decide +kernel, by decide +kernel⟩, List.mem_of_getElem? (i := 18) (by decide +kernel), List.mem_of_getElem? (i := 640) (by decide +kernel), List.mem_of_getElem? (i := 641) (by decide +kernel)⟩
theorem lw_p42 : lw_okq (⟨"PulsedAxes", "endOf", "(III)I"⟩, 9) := ⟨⟨by decide +kernel, by decide +kernel⟩, List.mem_of_getElem? (i := 18) (by decide +kernel), List.mem_of_getElem? (i := 644) (by decide +kernel), List.mem_of_getElem? (i := 645) (by decide +kernel)⟩
theorem lw_p43 : lw_okq (⟨"PulsedAxes$Past", "copyFrom", "(LPulsedAxes$Past;)V"⟩, 2) := ⟨⟨by decide +kernel, by decide +kernel⟩, List.mem_of_getElem? (i := 110) (by decide +kernel), List.mem_of_getElem? (i := 656) (by decide +kernel), List.mem_of_getElem? (i := 657) (by decide +kernel)⟩
theorem lw_p44 : lw_okq (⟨"PulsedAxes$Sheet", "refusal", "(III)I"⟩, 4) := ⟨⟨by decide +kernel, by decide +kernel⟩, List.mem_of_getElem? (i := 189) (by decide +kernel), List.mem_of_getElem? (i := 674) (by decide +kernel), List.mem_of_getElem? (i := 675) (by decide +kernel)⟩
theorem lw_p45 : lw_okq (⟨"PulsedAxes$Sheet", "holds", "(II)Z"⟩, 4) := ⟨⟨by decide +kernel, by decide +kernel⟩, List.mem_of_getElem? (i := 189) (by decide +kernel), List.mem_of_getElem? (i := 680) (by decide +kernel), List.mem_of_getElem? (i := 681) (by decide +kernel)⟩
theorem lw_p46 : lw_okq (⟨"PulsedAxes", "comesSo", "(ILPulsedAxes$Sheet;II)Z"⟩, 9) := ⟨⟨by decide +kernel, by decide +kernel⟩, List.mem_of_getElem? (i := 18) (by decide +kernel), List.mem_of_getElem? (i := 685) (by decide +kernel), List.mem_of_getElem? (i := 686) (by decide +kernel)⟩
theorem lw_p47 : lw_okq (⟨"PulsedAxes$Walk", "beginAs", "(I)V"⟩, 6) := ⟨⟨by decide +kernel, by decide +kernel⟩, List.mem_of_getElem? (i := 127) (by decide +kernel), List.mem_of_getElem? (i := 689) (by decide +kernel), List.mem_of_getElem? (i := 690) (by decide +kernel)⟩
def lw_privs_3 : List (MethodName × Nat) := [(⟨"PulsedAxes$Piece", "gone", "(II)I"⟩, 9), (⟨"PulsedAxes$Piece", "way", "(I)I"⟩, 9), (⟨"PulsedAxes$Walk", "settle", "()V"⟩, 6), (⟨"PulsedAxes", "driftOnce", "()V"⟩, 9), (⟨"PulsedAxes$Past", "takeBack", "(LPulsedAxes$State;)V"⟩, 2), (⟨"PulsedAxes$Piece", "raiseOff", "(LPulsedAxes$Fraction;)V"⟩, 9), (⟨"PulsedAxes$Fraction", "raise", "(II)V"⟩, 2), (⟨"PulsedAxes$Fraction", "lowest", "(I)I"⟩, 2), (⟨"PulsedAxes$Fraction", "commonDivisor", "()I"⟩, 2), (⟨"PulsedAxes", "gatherMoves", "(I)V"⟩, 9), (⟨"PulsedAxes", "endOf", "(III)I"⟩, 9), (⟨"PulsedAxes$Past", "copyFrom", "(LPulsedAxes$Past;)V"⟩, 2), (⟨"PulsedAxes$Sheet", "refusal", "(III)I"⟩, 4), (⟨"PulsedAxes$Sheet", "holds", "(II)Z"⟩, 4), (⟨"PulsedAxes", "comesSo", "(ILPulsedAxes$Sheet;II)Z"⟩, 9), (⟨"PulsedAxes$Walk", "beginAs", "(I)V"⟩, 6)]
theorem lw_r3 : ∀ q ∈ lw_privs_3, lw_okq q := List.forall_mem_cons.mpr ⟨lw_p32, List.forall_mem_cons.mpr ⟨lw_p33, List.forall_mem_cons.mpr ⟨lw_p34, List.forall_mem_cons.mpr ⟨lw_p35, List.forall_mem_cons.mpr ⟨lw_p36, List.forall_mem_cons.mpr ⟨lw_p37, List.forall_mem_cons.mpr ⟨lw_p38, List.forall_mem_cons.mpr ⟨lw_p39, List.forall_mem_cons.mpr ⟨lw_p40, List.forall_mem_cons.mpr ⟨lw_p41, List.forall_mem_cons.mpr ⟨lw_p42, List.forall_mem_cons.mpr ⟨lw_p43, List.forall_mem_cons.mpr ⟨lw_p44, List.forall_mem_cons.mpr ⟨lw_p45, List.forall_mem_cons.mpr ⟨lw_p46, List.forall_mem_cons.mpr ⟨lw_p47, fun _ h => absurd h List.not_mem_nil⟩⟩⟩⟩⟩⟩⟩⟩⟩⟩⟩⟩⟩⟩⟩⟩
theorem lw_p48 : lw_okq (⟨"PulsedAxes$Sheet", "get", "(I)J"⟩, 4) := ⟨⟨by decide +kernel, by decide +kernel⟩, List.mem_of_getElem? (i := 189) (by decide +kernel), List.mem_of_getElem? (i := 695) (by decide +kernel), List.mem_of_getElem? (i := 696) (by decide +kernel)⟩
theorem lw_p49 : lw_okq (⟨"PulsedAxes$Sheet", "put", "(IJ)V"⟩, 4) := ⟨⟨by decide +kernel, by decide +kernel⟩, List.mem_of_getElem? (i := 189) (by decide +kernel), List.mem_of_getElem? (i := 703) (by decide +kernel), List.mem_of_getElem? (i := 704) (by decide +kernel)⟩
theorem lw_p50 : lw_okq (⟨"PulsedAxes$Sheet", "lowestBits", "(J)J"⟩, 4) := ⟨⟨by decide +kernel, by decide +kernel⟩, List.mem_of_getElem? (i := 189) (by decide +kernel), List.mem_of_getElem? (i := 707) (by decide +kernel), List.mem_of_getElem? (i := 708) (by decide +kernel)⟩
theorem lw_p51 : lw_okq (⟨"PulsedAxes$Sheet", "renew", "(II)V"⟩, 4) := ⟨⟨by decide +kernel, by decide +kernel⟩, List.mem_of_getElem? (i := 189) (by decide +kernel), List.mem_of_getElem? (i := 716) (by decide +kernel), List.mem_of_getElem? (i := 717) (by decide +kernel)⟩
theorem lw_p52 : lw_okq (⟨"PulsedAxesModel", "stillNow", "(I)I"⟩, 16) := ⟨⟨by decide +kernel, by decide +kernel⟩, List.mem_of_getElem? (i := 737) (by decide +kernel), List.mem_of_getElem? (i := 811) (by decide +kernel), List.mem_of_getElem? (i := 812) (by decide +kernel)⟩
theorem lw_p53 : lw_okq (⟨"PulsedAxesModel", "stepsAt", "(I)I"⟩, 16) := ⟨⟨by decide +kernel, by decide +kernel⟩, List.mem_of_getElem? (i := 737) (by decide +kernel), List.mem_of_getElem? (i := 815) (by decide +kernel), List.mem_of_getElem? (i := 816) (by decide +kernel)⟩
theorem lw_p54 : lw_okq (⟨"PulsedAxesModel", "leftOf", "(I)I"⟩, 16) := ⟨⟨by decide +kernel, by decide +kernel⟩, List.mem_of_getElem? (i := 737) (by decide +kernel), List.mem_of_getElem? (i := 832) (by decide +kernel), List.mem_of_getElem? (i := 833) (by decide +kernel)⟩
theorem lw_p55 : lw_okq (⟨"PulsedAxesModel", "kinds", "()I"⟩, 16) := ⟨⟨by decide +kernel, by decide +kernel⟩, List.mem_of_getElem? (i := 737) (by decide +kernel), List.mem_of_getElem? (i := 836) (by decide +kernel), List.mem_of_getElem? (i := 837) (by decide +kernel)⟩
theorem lw_p56 : lw_okq (⟨"PulsedAxesModel", "takesPlan", "()I"⟩, 16) := ⟨⟨by decide +kernel, by decide +kernel⟩, List.mem_of_getElem? (i := 737) (by decide +kernel), List.mem_of_getElem? (i := 851) (by decide +kernel), List.mem_of_getElem? (i := 852) (by decide +kernel)⟩
theorem lw_p57 : lw_okq (⟨"PulsedAxesModel", "here", "()I"⟩, 16) := ⟨⟨by decide +kernel, by decide +kernel⟩, List.mem_of_getElem? (i := 737) (by decide +kernel), List.mem_of_getElem? (i := 855) (by decide +kernel), List.mem_of_getElem? (i := 856) (by decide +kernel)⟩
theorem lw_p58 : lw_okq (⟨"PulsedAxesModel", "takesPiece", "(I)Z"⟩, 16) := ⟨⟨by decide +kernel, by decide +kernel⟩, List.mem_of_getElem? (i := 737) (by decide +kernel), List.mem_of_getElem? (i := 859) (by decide +kernel), List.mem_of_getElem? (i := 860) (by decide +kernel)⟩
theorem lw_p59 : lw_okq (⟨"PulsedAxesModel", "takesNumber", "()Z"⟩, 16) := ⟨⟨by decide +kernel, by decide +kernel⟩, List.mem_of_getElem? (i := 737) (by decide +kernel), List.mem_of_getElem? (i := 866) (by decide +kernel), List.mem_of_getElem? (i := 867) (by decide +kernel)⟩
theorem lw_p60 : lw_okq (⟨"PulsedAxesModel", "minds", "()V"⟩, 16) := ⟨⟨by decide +kernel, by decide +kernel⟩, List.mem_of_getElem? (i := 737) (by decide +kernel), List.mem_of_getElem? (i := 888) (by decide +kernel), List.mem_of_getElem? (i := 889) (by decide +kernel)⟩
theorem lw_p61 : lw_okq (⟨"PulsedAxesModel", "copyRow", "(II)V"⟩, 16) := ⟨⟨by decide +kernel, by decide +kernel⟩, List.mem_of_getElem? (i := 737) (by decide +kernel), List.mem_of_getElem? (i := 892) (by decide +kernel), List.mem_of_getElem? (i := 893) (by decide +kernel)⟩
theorem lw_p62 : lw_okq (⟨"PulsedAxesModel", "lays", "(IIIII)V"⟩, 16) := ⟨⟨by decide +kernel, by decide +kernel⟩, List.mem_of_getElem? (i := 737) (by decide +kernel), List.mem_of_getElem? (i := 896) (by decide +kernel), List.mem_of_getElem? (i := 897) (by decide +kernel)⟩
theorem lw_p63 : lw_okq (⟨"PulsedAxesModel", "steps", "(I)Z"⟩, 16) := ⟨⟨by decide +kernel, by decide +kernel⟩, List.mem_of_getElem? (i := 737) (by decide +kernel), List.mem_of_getElem? (i := 922) (by decide +kernel), List.mem_of_getElem? (i := 923) (by decide +kernel)⟩
def lw_privs_4 : List (MethodName × Nat) := [(⟨"PulsedAxes$Sheet", "get", "(I)J"⟩, 4), (⟨"PulsedAxes$Sheet", "put", "(IJ)V"⟩, 4), (⟨"PulsedAxes$Sheet", "lowestBits", "(J)J"⟩, 4), (⟨"PulsedAxes$Sheet", "renew", "(II)V"⟩, 4), (⟨"PulsedAxesModel", "stillNow", "(I)I"⟩, 16), (⟨"PulsedAxesModel", "stepsAt", "(I)I"⟩, 16), (⟨"PulsedAxesModel", "leftOf", "(I)I"⟩, 16), (⟨"PulsedAxesModel", "kinds", "()I"⟩, 16), (⟨"PulsedAxesModel", "takesPlan", "()I"⟩, 16), (⟨"PulsedAxesModel", "here", "()I"⟩, 16), (⟨"PulsedAxesModel", "takesPiece", "(I)Z"⟩, 16), (⟨"PulsedAxesModel", "takesNumber", "()Z"⟩, 16), (⟨"PulsedAxesModel", "minds", "()V"⟩, 16), (⟨"PulsedAxesModel", "copyRow", "(II)V"⟩, 16), (⟨"PulsedAxesModel", "lays", "(IIIII)V"⟩, 16), (⟨"PulsedAxesModel", "steps", "(I)Z"⟩, 16)]
theorem lw_r4 : ∀ q ∈ lw_privs_4, lw_okq q := List.forall_mem_cons.mpr ⟨lw_p48, List.forall_mem_cons.mpr ⟨lw_p49, List.forall_mem_cons.mpr ⟨lw_p50, List.forall_mem_cons.mpr ⟨lw_p51, List.forall_mem_cons.mpr ⟨lw_p52, List.forall_mem_cons.mpr ⟨lw_p53, List.forall_mem_cons.mpr ⟨lw_p54, List.forall_mem_cons.mpr ⟨lw_p55, List.forall_mem_cons.mpr ⟨lw_p56, List.forall_mem_cons.mpr ⟨lw_p57, List.forall_mem_cons.mpr ⟨lw_p58, List.forall_mem_cons.mpr ⟨lw_p59, List.forall_mem_cons.mpr ⟨lw_p60, List.forall_mem_cons.mpr ⟨lw_p61, List.forall_mem_cons.mpr ⟨lw_p62, List.forall_mem_cons.mpr ⟨lw_p63, fun _ h => absurd h List.not_mem_nil⟩⟩⟩⟩⟩⟩⟩⟩⟩⟩⟩⟩⟩⟩⟩⟩
theorem lw_p64 : lw_okq (⟨"PulsedAxesModel", "begins", "(I)V"⟩, 16) := ⟨⟨by decide +kernel, by decide +kernel⟩, List.mem_of_getElem? (i := 737) (by decide +kernel), List.mem_of_getElem? (i := 926) (by decide +kernel), List.mem_of_getElem? (i := 927) (by decide +kernel)⟩
theorem lw_p65 : lw_okq (⟨"PulsedAxesModel", "line", "(I)V"⟩, 16) := ⟨⟨by decide +kernel, by decide +kernel⟩, List.mem_of_getElem? (i := 737) (by decide +kernel), List.mem_of_getElem? (i := 930) (by decide +kernel), List.mem_of_getElem? (i := 931) (by decide +kernel)⟩
theorem lw_p66 : lw_okq (⟨"PulsedAxesModel", "goes", "(III)V"⟩, 16) := ⟨⟨by decide +kernel, by decide +kernel⟩, List.mem_of_getElem? (i := 737) (by decide +kernel), List.mem_of_getElem? (i := 937) (by decide +kernel), List.mem_of_getElem? (i := 938) (by decide +kernel)⟩
theorem lw_p67 : lw_okq (⟨"PulsedAxesModel", "even", "(I)V"⟩, 16) := ⟨⟨by decide +kernel, by decide +kernel⟩, List.mem_of_getElem? (i := 737) (by decide +kernel), List.mem_of_getElem? (i := 941) (by decide +kernel), List.mem_of_getElem? (i := 942) (by decide +kernel)⟩
theorem lw_p68 : lw_okq (⟨"PulsedAxesModel", "arc", "(I)V"⟩, 16) := ⟨⟨by decide +kernel, by decide +kernel⟩, List.mem_of_getElem? (i := 737) (by decide +kernel), List.mem_of_getElem? (i := 945) (by decide +kernel), List.mem_of_getElem? (i := 946) (by decide +kernel)⟩
theorem lw_p69 : lw_okq (⟨"PulsedAxesModel", "offBy", "(I)V"⟩, 16) := ⟨⟨by decide +kernel, by decide +kernel⟩, List.mem_of_getElem? (i := 737) (by decide +kernel), List.mem_of_getElem? (i := 992) (by decide +kernel), List.mem_of_getElem? (i := 993) (by decide +kernel)⟩
theorem lw_p70 : lw_okq (⟨"PulsedAxesModel", "against", "(IIII)I"⟩, 16) := ⟨⟨by decide +kernel, by decide +kernel⟩, List.mem_of_getElem? (i := 737) (by decide +kernel), List.mem_of_getElem? (i := 1023) (by decide +kernel), List.mem_of_getElem? (i := 1024) (by decide +kernel)⟩
theorem lw_p71 : lw_okq (⟨"PulsedAxesModel", "cameBy", "(IIII)Z"⟩, 16) := ⟨⟨by decide +kernel, by decide +kernel⟩, List.mem_of_getElem? (i := 737) (by decide +kernel), List.mem_of_getElem? (i := 1030) (by decide +kernel), List.mem_of_getElem? (i := 1031) (by decide +kernel)⟩
def lw_privs_5 : List (MethodName × Nat) := [(⟨"PulsedAxesModel", "begins", "(I)V"⟩, 16), (⟨"PulsedAxesModel", "line", "(I)V"⟩, 16), (⟨"PulsedAxesModel", "goes", "(III)V"⟩, 16), (⟨"PulsedAxesModel", "even", "(I)V"⟩, 16), (⟨"PulsedAxesModel", "arc", "(I)V"⟩, 16), (⟨"PulsedAxesModel", "offBy", "(I)V"⟩, 16), (⟨"PulsedAxesModel", "against", "(IIII)I"⟩, 16), (⟨"PulsedAxesModel", "cameBy", "(IIII)Z"⟩, 16)]
theorem lw_r5 : ∀ q ∈ lw_privs_5, lw_okq q := List.forall_mem_cons.mpr ⟨lw_p64, List.forall_mem_cons.mpr ⟨lw_p65, List.forall_mem_cons.mpr ⟨lw_p66, List.forall_mem_cons.mpr ⟨lw_p67, List.forall_mem_cons.mpr ⟨lw_p68, List.forall_mem_cons.mpr ⟨lw_p69, List.forall_mem_cons.mpr ⟨lw_p70, List.forall_mem_cons.mpr ⟨lw_p71, fun _ h => absurd h List.not_mem_nil⟩⟩⟩⟩⟩⟩⟩⟩
def lw_privs : List (MethodName × Nat) := lw_privs_1 ++ (lw_privs_2 ++ (lw_privs_3 ++ (lw_privs_4 ++ (lw_privs_5))))
def lw_tbl : List Cond := k2_sels lw_privs ++ tables_1
theorem lw_privs_ok : ∀ q ∈ lw_privs, lw_okq q := by
  show ∀ q ∈ lw_privs_1 ++ (lw_privs_2 ++ (lw_privs_3 ++ (lw_privs_4 ++ (lw_privs_5)))), lw_okq q
  exact List.forall_mem_append.mpr ⟨lw_r1, List.forall_mem_append.mpr ⟨lw_r2, List.forall_mem_append.mpr ⟨lw_r3, List.forall_mem_append.mpr ⟨lw_r4, lw_r5⟩⟩⟩⟩

def RX0 : String := "PulsedAxes$Fraction"
def TX0 : u_T := fun k => match k with
  | 0 => ("PulsedAxes$Fraction", "above", "I", false)
  | _ => ("PulsedAxes$Fraction", "below", "I", false)
def tyX0 : Nat → FieldType := fun k => match k with
  | 0 => .int
  | _ => .int
abbrev wsX00 : List Cond := u_ws RX0 TX0 2
theorem nmX0 : ∀ a, a < 2 → ∀ b, b < 2 → a ≠ b → (TX0 a).2.1 ≠ (TX0 b).2.1 := by decide +kernel
theorem tyX0_ok : ∀ k, k < 2 → parseFieldDescriptor (TX0 k).2.2.1 = some (tyX0 k) := by decide +kernel
abbrev cX0_init : ByteArray := prog_2_method_1_code
def yX0_init : MethodName := ⟨RX0, "<init>", "()V"⟩
abbrev cX0_raise : ByteArray := prog_2_method_2_code
def yX0_raise : MethodName := ⟨RX0, "raise", "(II)V"⟩
abbrev cX0_lowest : ByteArray := prog_2_method_3_code
def yX0_lowest : MethodName := ⟨RX0, "lowest", "(I)I"⟩
abbrev cX0_commonDivisor : ByteArray := prog_2_method_4_code
def yX0_commonDivisor : MethodName := ⟨RX0, "commonDivisor", "()I"⟩
def RX1 : String := "PulsedAxes$Past"
def TX1 : u_T := fun k => match k with
  | 0 => ("PulsedAxes$Past", "kept", "[LPulsedAxes$State;", true)
  | _ => ("PulsedAxes$Past", "known", "I", false)
def tyX1 : Nat → FieldType := fun k => match k with
  | 0 => .array (.object "PulsedAxes$State")
  | _ => .int
abbrev wsX10 : List Cond := u_ws RX1 TX1 2
theorem nmX1 : ∀ a, a < 2 → ∀ b, b < 2 → a ≠ b → (TX1 a).2.1 ≠ (TX1 b).2.1 := by decide +kernel
theorem tyX1_ok : ∀ k, k < 2 → parseFieldDescriptor (TX1 k).2.2.1 = some (tyX1 k) := by decide +kernel
abbrev cX1_init : ByteArray := prog_3_method_1_code
def yX1_init : MethodName := ⟨RX1, "<init>", "()V"⟩
abbrev cX1_keep : ByteArray := prog_3_method_2_code
def yX1_keep : MethodName := ⟨RX1, "keep", "(LPulsedAxes$State;)V"⟩
abbrev cX1_forgetOldest : ByteArray := prog_3_method_3_code
def yX1_forgetOldest : MethodName := ⟨RX1, "forgetOldest", "()V"⟩
abbrev cX1_takeBack : ByteArray := prog_3_method_4_code
def yX1_takeBack : MethodName := ⟨RX1, "takeBack", "(LPulsedAxes$State;)V"⟩
abbrev cX1_copyFrom : ByteArray := prog_3_method_5_code
def yX1_copyFrom : MethodName := ⟨RX1, "copyFrom", "(LPulsedAxes$Past;)V"⟩
def RX2 : String := "PulsedAxes$Piece"
def TX2 : u_T := fun k => match k with
  | 0 => ("PulsedAxes$Piece", "kind", "I", false)
  | 1 => ("PulsedAxes$Piece", "a", "I", false)
  | 2 => ("PulsedAxes$Piece", "b", "I", false)
  | 3 => ("PulsedAxes$Piece", "c", "I", false)
  | 4 => ("PulsedAxes$Piece", "done", "I", false)
  | 5 => ("PulsedAxes$Piece", "turn", "I", false)
  | 6 => ("PulsedAxes$Piece", "axis", "I", false)
  | 7 => ("PulsedAxes$Piece", "u", "I", false)
  | _ => ("PulsedAxes$Piece", "v", "I", false)
def tyX2 : Nat → FieldType := fun k => match k with
  | 0 => .int
  | 1 => .int
  | 2 => .int
  | 3 => .int
  | 4 => .int
  | 5 => .int
  | 6 => .int
  | 7 => .int
  | _ => .int
abbrev wsX20 : List Cond := u_ws RX2 TX2 9
theorem nmX2 : ∀ a, a < 9 → ∀ b, b < 9 → a ≠ b → (TX2 a).2.1 ≠ (TX2 b).2.1 := by decide +kernel
theorem tyX2_ok : ∀ k, k < 9 → parseFieldDescriptor (TX2 k).2.2.1 = some (tyX2 k) := by decide +kernel
abbrev cX2_init : ByteArray := prog_4_method_1_code
def yX2_init : MethodName := ⟨RX2, "<init>", "()V"⟩
abbrev cX2_tell : ByteArray := prog_4_method_2_code
def yX2_tell : MethodName := ⟨RX2, "tell", "(IIII)V"⟩
abbrev cX2_copyFrom : ByteArray := prog_4_method_3_code
def yX2_copyFrom : MethodName := ⟨RX2, "copyFrom", "(LPulsedAxes$Piece;)V"⟩
abbrev cX2_isArc : ByteArray := prog_4_method_4_code
def yX2_isArc : MethodName := ⟨RX2, "isArc", "()Z"⟩
abbrev cX2_way : ByteArray := prog_4_method_5_code
def yX2_way : MethodName := ⟨RX2, "way", "(I)I"⟩
abbrev cX2_turns : ByteArray := prog_4_method_6_code
def yX2_turns : MethodName := ⟨RX2, "turns", "()I"⟩
abbrev cX2_total : ByteArray := prog_4_method_7_code
def yX2_total : MethodName := ⟨RX2, "total", "()I"⟩
abbrev cX2_remaining : ByteArray := prog_4_method_8_code
def yX2_remaining : MethodName := ⟨RX2, "remaining", "()I"⟩
abbrev cX2_gone : ByteArray := prog_4_method_9_code
def yX2_gone : MethodName := ⟨RX2, "gone", "(II)I"⟩
abbrev cX2_nearest : ByteArray := prog_4_method_10_code
def yX2_nearest : MethodName := ⟨RX2, "nearest", "(II)I"⟩
abbrev cX2_advance : ByteArray := prog_4_method_11_code
def yX2_advance : MethodName := ⟨RX2, "advance", "([I)V"⟩
abbrev cX2_advanceEven : ByteArray := prog_4_method_12_code
def yX2_advanceEven : MethodName := ⟨RX2, "advanceEven", "([I)V"⟩
abbrev cX2_advanceArc : ByteArray := prog_4_method_13_code
def yX2_advanceArc : MethodName := ⟨RX2, "advanceArc", "([I)V"⟩
abbrev cX2_offCircle : ByteArray := prog_4_method_14_code
def yX2_offCircle : MethodName := ⟨RX2, "offCircle", "(II)I"⟩
abbrev cX2_raiseOff : ByteArray := prog_4_method_15_code
def yX2_raiseOff : MethodName := ⟨RX2, "raiseOff", "(LPulsedAxes$Fraction;)V"⟩
def RX3 : String := "PulsedAxes$Reader"
def TX3 : u_T := fun k => match k with
  | 0 => ("PulsedAxes$Reader", "tape", "[C", true)
  | 1 => ("PulsedAxes$Reader", "length", "I", false)
  | 2 => ("PulsedAxes$Reader", "pieces", "[LPulsedAxes$Piece;", true)
  | 3 => ("PulsedAxes$Reader", "found", "I", false)
  | 4 => ("PulsedAxes$Reader", "numbers", "[I", true)
  | _ => ("PulsedAxes$Reader", "at", "I", false)
def tyX3 : Nat → FieldType := fun k => match k with
  | 0 => .array .char
  | 1 => .int
  | 2 => .array (.object "PulsedAxes$Piece")
  | 3 => .int
  | 4 => .array .int
  | _ => .int
abbrev wsX30 : List Cond := u_ws RX3 TX3 6
theorem nmX3 : ∀ a, a < 6 → ∀ b, b < 6 → a ≠ b → (TX3 a).2.1 ≠ (TX3 b).2.1 := by decide +kernel
theorem tyX3_ok : ∀ k, k < 6 → parseFieldDescriptor (TX3 k).2.2.1 = some (tyX3 k) := by decide +kernel
abbrev cX3_init : ByteArray := prog_5_method_1_code
def yX3_init : MethodName := ⟨RX3, "<init>", "()V"⟩
abbrev cX3_append : ByteArray := prog_5_method_2_code
def yX3_append : MethodName := ⟨RX3, "append", "(C)Z"⟩
abbrev cX3_readPlan : ByteArray := prog_5_method_3_code
def yX3_readPlan : MethodName := ⟨RX3, "readPlan", "()Z"⟩
abbrev cX3_readPiece : ByteArray := prog_5_method_4_code
def yX3_readPiece : MethodName := ⟨RX3, "readPiece", "(I)Z"⟩
abbrev cX3_readNumber : ByteArray := prog_5_method_5_code
def yX3_readNumber : MethodName := ⟨RX3, "readNumber", "(I)Z"⟩
abbrev cX3_digitIsNext : ByteArray := prog_5_method_6_code
def yX3_digitIsNext : MethodName := ⟨RX3, "digitIsNext", "()Z"⟩
abbrev cX3_readSign : ByteArray := prog_5_method_7_code
def yX3_readSign : MethodName := ⟨RX3, "readSign", "(C)Z"⟩
abbrev cX3_atEnd : ByteArray := prog_5_method_8_code
def yX3_atEnd : MethodName := ⟨RX3, "atEnd", "()Z"⟩
def RX4 : String := "PulsedAxes$Sheet"
def TX4 : u_T := fun k => match k with
  | 0 => ("PulsedAxes$Sheet", "items", "[J", true)
  | 1 => ("PulsedAxes$Sheet", "there", "Z", false)
  | 2 => ("PulsedAxes$Sheet", "lane", "I", false)
  | _ => ("PulsedAxes$Sheet", "size", "I", false)
def tyX4 : Nat → FieldType := fun k => match k with
  | 0 => .array .long
  | 1 => .boolean
  | 2 => .int
  | _ => .int
abbrev wsX40 : List Cond := u_ws RX4 TX4 4
theorem nmX4 : ∀ a, a < 4 → ∀ b, b < 4 → a ≠ b → (TX4 a).2.1 ≠ (TX4 b).2.1 := by decide +kernel
theorem tyX4_ok : ∀ k, k < 4 → parseFieldDescriptor (TX4 k).2.2.1 = some (tyX4 k) := by decide +kernel
abbrev cX4_init : ByteArray := prog_6_method_1_code
def yX4_init : MethodName := ⟨RX4, "<init>", "()V"⟩
abbrev cX4_renew : ByteArray := prog_6_method_2_code
def yX4_renew : MethodName := ⟨RX4, "renew", "(II)V"⟩
abbrev cX4_refusal : ByteArray := prog_6_method_3_code
def yX4_refusal : MethodName := ⟨RX4, "refusal", "(III)I"⟩
abbrev cX4_holds : ByteArray := prog_6_method_4_code
def yX4_holds : MethodName := ⟨RX4, "holds", "(II)Z"⟩
abbrev cX4_get : ByteArray := prog_6_method_5_code
def yX4_get : MethodName := ⟨RX4, "get", "(I)J"⟩
abbrev cX4_put : ByteArray := prog_6_method_6_code
def yX4_put : MethodName := ⟨RX4, "put", "(IJ)V"⟩
abbrev cX4_lowestBits : ByteArray := prog_6_method_7_code
def yX4_lowestBits : MethodName := ⟨RX4, "lowestBits", "(J)J"⟩
def RX5 : String := "PulsedAxes$State"
def TX5 : u_T := fun k => match k with
  | 0 => ("PulsedAxes$State", "spot", "[I", true)
  | 1 => ("PulsedAxes$State", "row", "[LPulsedAxes$Piece;", true)
  | 2 => ("PulsedAxes$State", "waiting", "I", false)
  | 3 => ("PulsedAxes$State", "now", "LPulsedAxes$Piece;", true)
  | 4 => ("PulsedAxes$State", "busy", "Z", false)
  | 5 => ("PulsedAxes$State", "held", "Z", false)
  | _ => ("PulsedAxes$State", "draw", "I", false)
def tyX5 : Nat → FieldType := fun k => match k with
  | 0 => .array .int
  | 1 => .array (.object "PulsedAxes$Piece")
  | 2 => .int
  | 3 => .object "PulsedAxes$Piece"
  | 4 => .boolean
  | 5 => .boolean
  | _ => .int
abbrev wsX50 : List Cond := u_ws RX5 TX5 7
theorem nmX5 : ∀ a, a < 7 → ∀ b, b < 7 → a ≠ b → (TX5 a).2.1 ≠ (TX5 b).2.1 := by decide +kernel
theorem tyX5_ok : ∀ k, k < 7 → parseFieldDescriptor (TX5 k).2.2.1 = some (tyX5 k) := by decide +kernel
abbrev cX5_init : ByteArray := prog_7_method_1_code
def yX5_init : MethodName := ⟨RX5, "<init>", "()V"⟩
abbrev cX5_copyFrom : ByteArray := prog_7_method_2_code
def yX5_copyFrom : MethodName := ⟨RX5, "copyFrom", "(LPulsedAxes$State;)V"⟩
abbrev cX5_clear : ByteArray := prog_7_method_3_code
def yX5_clear : MethodName := ⟨RX5, "clear", "()V"⟩
abbrev cX5_addLast : ByteArray := prog_7_method_4_code
def yX5_addLast : MethodName := ⟨RX5, "addLast", "(IIII)V"⟩
abbrev cX5_addFirst : ByteArray := prog_7_method_5_code
def yX5_addFirst : MethodName := ⟨RX5, "addFirst", "(IIII)V"⟩
abbrev cX5_removeAt : ByteArray := prog_7_method_6_code
def yX5_removeAt : MethodName := ⟨RX5, "removeAt", "(I)V"⟩
abbrev cX5_removeAll : ByteArray := prog_7_method_7_code
def yX5_removeAll : MethodName := ⟨RX5, "removeAll", "(I)I"⟩
abbrev cX5_kinds : ByteArray := prog_7_method_8_code
def yX5_kinds : MethodName := ⟨RX5, "kinds", "()I"⟩
abbrev cX5_remaining : ByteArray := prog_7_method_9_code
def yX5_remaining : MethodName := ⟨RX5, "remaining", "()I"⟩
def RX6 : String := "PulsedAxes$Walk"
def TX6 : u_T := fun k => match k with
  | 0 => ("PulsedAxes$Walk", "from", "LPulsedAxes$State;", true)
  | 1 => ("PulsedAxes$Walk", "now", "LPulsedAxes$Piece;", true)
  | 2 => ("PulsedAxes$Walk", "busy", "Z", false)
  | 3 => ("PulsedAxes$Walk", "taken", "I", false)
  | 4 => ("PulsedAxes$Walk", "spot", "[I", true)
  | _ => ("PulsedAxes$Walk", "move", "[I", true)
def tyX6 : Nat → FieldType := fun k => match k with
  | 0 => .object "PulsedAxes$State"
  | 1 => .object "PulsedAxes$Piece"
  | 2 => .boolean
  | 3 => .int
  | 4 => .array .int
  | _ => .array .int
abbrev wsX60 : List Cond := u_ws RX6 TX6 6
theorem nmX6 : ∀ a, a < 6 → ∀ b, b < 6 → a ≠ b → (TX6 a).2.1 ≠ (TX6 b).2.1 := by decide +kernel
theorem tyX6_ok : ∀ k, k < 6 → parseFieldDescriptor (TX6 k).2.2.1 = some (tyX6 k) := by decide +kernel
abbrev cX6_init : ByteArray := prog_8_method_1_code
def yX6_init : MethodName := ⟨RX6, "<init>", "(LPulsedAxes$State;)V"⟩
abbrev cX6_begin : ByteArray := prog_8_method_2_code
def yX6_begin : MethodName := ⟨RX6, "begin", "()V"⟩
abbrev cX6_beginAs : ByteArray := prog_8_method_3_code
def yX6_beginAs : MethodName := ⟨RX6, "beginAs", "(I)V"⟩
abbrev cX6_takeNext : ByteArray := prog_8_method_4_code
def yX6_takeNext : MethodName := ⟨RX6, "takeNext", "()Z"⟩
abbrev cX6_advance : ByteArray := prog_8_method_5_code
def yX6_advance : MethodName := ⟨RX6, "advance", "()Z"⟩
abbrev cX6_settle : ByteArray := prog_8_method_6_code
def yX6_settle : MethodName := ⟨RX6, "settle", "()V"⟩
def RX7 : String := "PulsedAxes"
def TX7 : u_T := fun k => match k with
  | 0 => ("PulsedAxes", "state", "LPulsedAxes$State;", true)
  | 1 => ("PulsedAxes", "past", "LPulsedAxes$Past;", true)
  | 2 => ("PulsedAxes", "walk", "LPulsedAxes$Walk;", true)
  | 3 => ("PulsedAxes", "reader", "LPulsedAxes$Reader;", true)
  | 4 => ("PulsedAxes", "sheets", "[LPulsedAxes$Sheet;", true)
  | 5 => ("PulsedAxes", "moves", "[I", true)
  | 6 => ("PulsedAxes", "imageState", "LPulsedAxes$State;", true)
  | 7 => ("PulsedAxes", "imagePast", "LPulsedAxes$Past;", true)
  | _ => ("PulsedAxes", "imaged", "Z", false)
def tyX7 : Nat → FieldType := fun k => match k with
  | 0 => .object "PulsedAxes$State"
  | 1 => .object "PulsedAxes$Past"
  | 2 => .object "PulsedAxes$Walk"
  | 3 => .object "PulsedAxes$Reader"
  | 4 => .array (.object "PulsedAxes$Sheet")
  | 5 => .array .int
  | 6 => .object "PulsedAxes$State"
  | 7 => .object "PulsedAxes$Past"
  | _ => .boolean
abbrev wsX70 : List Cond := u_ws RX7 TX7 9
theorem nmX7 : ∀ a, a < 9 → ∀ b, b < 9 → a ≠ b → (TX7 a).2.1 ≠ (TX7 b).2.1 := by decide +kernel
theorem tyX7_ok : ∀ k, k < 9 → parseFieldDescriptor (TX7 k).2.2.1 = some (tyX7 k) := by decide +kernel
abbrev cX7_init : ByteArray := prog_1_method_1_code
def yX7_init : MethodName := ⟨RX7, "<init>", "()V"⟩
abbrev cX7_place : ByteArray := prog_1_method_2_code
def yX7_place : MethodName := ⟨RX7, "place", "(I)I"⟩
abbrev cX7_piece : ByteArray := prog_1_method_3_code
def yX7_piece : MethodName := ⟨RX7, "piece", "(II)I"⟩
abbrev cX7_type : ByteArray := prog_1_method_4_code
def yX7_type : MethodName := ⟨RX7, "type", "(I)I"⟩
abbrev cX7_plan : ByteArray := prog_1_method_5_code
def yX7_plan : MethodName := ⟨RX7, "plan", "()I"⟩
abbrev cX7_count : ByteArray := prog_1_method_6_code
def yX7_count : MethodName := ⟨RX7, "count", "(I)I"⟩
abbrev cX7_push : ByteArray := prog_1_method_7_code
def yX7_push : MethodName := ⟨RX7, "push", "(IIII)I"⟩
abbrev cX7_jump : ByteArray := prog_1_method_8_code
def yX7_jump : MethodName := ⟨RX7, "jump", "(IIII)I"⟩
abbrev cX7_purge : ByteArray := prog_1_method_9_code
def yX7_purge : MethodName := ⟨RX7, "purge", "(I)I"⟩
abbrev cX7_stop : ByteArray := prog_1_method_10_code
def yX7_stop : MethodName := ⟨RX7, "stop", "()I"⟩
abbrev cX7_hold : ByteArray := prog_1_method_11_code
def yX7_hold : MethodName := ⟨RX7, "hold", "()I"⟩
abbrev cX7_step : ByteArray := prog_1_method_12_code
def yX7_step : MethodName := ⟨RX7, "step", "(I)I"⟩
abbrev cX7_drift : ByteArray := prog_1_method_13_code
def yX7_drift : MethodName := ⟨RX7, "drift", "(I)I"⟩
abbrev cX7_undo : ByteArray := prog_1_method_14_code
def yX7_undo : MethodName := ⟨RX7, "undo", "()I"⟩
abbrev cX7_seed : ByteArray := prog_1_method_15_code
def yX7_seed : MethodName := ⟨RX7, "seed", "(I)I"⟩
abbrev cX7_where : ByteArray := prog_1_method_16_code
def yX7_where : MethodName := ⟨RX7, "where", "(II)I"⟩
abbrev cX7_pulses : ByteArray := prog_1_method_17_code
def yX7_pulses : MethodName := ⟨RX7, "pulses", "(II)I"⟩
abbrev cX7_next : ByteArray := prog_1_method_18_code
def yX7_next : MethodName := ⟨RX7, "next", "(II)I"⟩
abbrev cX7_meets : ByteArray := prog_1_method_19_code
def yX7_meets : MethodName := ⟨RX7, "meets", "(III)I"⟩
abbrev cX7_reach : ByteArray := prog_1_method_20_code
def yX7_reach : MethodName := ⟨RX7, "reach", "(II)I"⟩
abbrev cX7_off : ByteArray := prog_1_method_21_code
def yX7_off : MethodName := ⟨RX7, "off", "(I)I"⟩
abbrev cX7_lost : ByteArray := prog_1_method_22_code
def yX7_lost : MethodName := ⟨RX7, "lost", "(IIIIII)I"⟩
abbrev cX7_image : ByteArray := prog_1_method_23_code
def yX7_image : MethodName := ⟨RX7, "image", "()I"⟩
abbrev cX7_restore : ByteArray := prog_1_method_24_code
def yX7_restore : MethodName := ⟨RX7, "restore", "()I"⟩
abbrev cX7_came : ByteArray := prog_1_method_25_code
def yX7_came : MethodName := ⟨RX7, "came", "(IIII)I"⟩
abbrev cX7_film : ByteArray := prog_1_method_26_code
def yX7_film : MethodName := ⟨RX7, "film", "(IIII)I"⟩
abbrev cX7_sheet : ByteArray := prog_1_method_27_code
def yX7_sheet : MethodName := ⟨RX7, "sheet", "(III)I"⟩
abbrev cX7_drop : ByteArray := prog_1_method_28_code
def yX7_drop : MethodName := ⟨RX7, "drop", "(I)I"⟩
abbrev cX7_item : ByteArray := prog_1_method_29_code
def yX7_item : MethodName := ⟨RX7, "item", "(IIIJ)I"⟩
abbrev cX7_copy : ByteArray := prog_1_method_30_code
def yX7_copy : MethodName := ⟨RX7, "copy", "(IIIII)I"⟩
abbrev cX7_isAxis : ByteArray := prog_1_method_31_code
def yX7_isAxis : MethodName := ⟨RX7, "isAxis", "(I)Z"⟩
abbrev cX7_isKind : ByteArray := prog_1_method_32_code
def yX7_isKind : MethodName := ⟨RX7, "isKind", "(I)Z"⟩
abbrev cX7_isSide : ByteArray := prog_1_method_33_code
def yX7_isSide : MethodName := ⟨RX7, "isSide", "(I)Z"⟩
abbrev cX7_isSheet : ByteArray := prog_1_method_34_code
def yX7_isSheet : MethodName := ⟨RX7, "isSheet", "(I)Z"⟩
abbrev cX7_isLane : ByteArray := prog_1_method_35_code
def yX7_isLane : MethodName := ⟨RX7, "isLane", "(I)Z"⟩
abbrev cX7_isWithin : ByteArray := prog_1_method_36_code
def yX7_isWithin : MethodName := ⟨RX7, "isWithin", "(II)Z"⟩
abbrev cX7_fits : ByteArray := prog_1_method_37_code
def yX7_fits : MethodName := ⟨RX7, "fits", "(IIII)Z"⟩
abbrev cX7_newcomerRefusal : ByteArray := prog_1_method_38_code
def yX7_newcomerRefusal : MethodName := ⟨RX7, "newcomerRefusal", "(IIII)I"⟩
abbrev cX7_sign : ByteArray := prog_1_method_39_code
def yX7_sign : MethodName := ⟨RX7, "sign", "(I)I"⟩
abbrev cX7_detail : ByteArray := prog_1_method_40_code
def yX7_detail : MethodName := ⟨RX7, "detail", "(LPulsedAxes$Piece;I)I"⟩
abbrev cX7_doSteps : ByteArray := prog_1_method_41_code
def yX7_doSteps : MethodName := ⟨RX7, "doSteps", "(I)I"⟩
abbrev cX7_driftOnce : ByteArray := prog_1_method_42_code
def yX7_driftOnce : MethodName := ⟨RX7, "driftOnce", "()V"⟩
abbrev cX7_gatherMoves : ByteArray := prog_1_method_43_code
def yX7_gatherMoves : MethodName := ⟨RX7, "gatherMoves", "(I)V"⟩
abbrev cX7_endOf : ByteArray := prog_1_method_44_code
def yX7_endOf : MethodName := ⟨RX7, "endOf", "(III)I"⟩
abbrev cX7_weightOf : ByteArray := prog_1_method_45_code
def yX7_weightOf : MethodName := ⟨RX7, "weightOf", "(III)I"⟩
abbrev cX7_comesSo : ByteArray := prog_1_method_46_code
def yX7_comesSo : MethodName := ⟨RX7, "comesSo", "(ILPulsedAxes$Sheet;II)Z"⟩
def RX8 : String := "PulsedAxesModel"
def TX8 : u_T := fun k => match k with
  | 0 => ("PulsedAxesModel", "w", "[I", true)
  | 1 => ("PulsedAxesModel", "undos", "I", false)
  | 2 => ("PulsedAxesModel", "imageUndos", "I", false)
  | 3 => ("PulsedAxesModel", "tape", "[I", true)
  | 4 => ("PulsedAxesModel", "taped", "I", false)
  | 5 => ("PulsedAxesModel", "moved", "[I", true)
  | 6 => ("PulsedAxesModel", "at", "I", false)
  | 7 => ("PulsedAxesModel", "number", "I", false)
  | 8 => ("PulsedAxesModel", "read", "[I", true)
  | 9 => ("PulsedAxesModel", "above", "I", false)
  | 10 => ("PulsedAxesModel", "below", "I", false)
  | 11 => ("PulsedAxesModel", "moves", "[I", true)
  | 12 => ("PulsedAxesModel", "many", "[I", true)
  | 13 => ("PulsedAxesModel", "lanes", "[I", true)
  | 14 => ("PulsedAxesModel", "items", "[J", true)
  | _ => ("PulsedAxesModel", "taken", "[J", true)
def tyX8 : Nat → FieldType := fun k => match k with
  | 0 => .array .int
  | 1 => .int
  | 2 => .int
  | 3 => .array .int
  | 4 => .int
  | 5 => .array .int
  | 6 => .int
  | 7 => .int
  | 8 => .array .int
  | 9 => .int
  | 10 => .int
  | 11 => .array .int
  | 12 => .array .int
  | 13 => .array .int
  | 14 => .array .long
  | _ => .array .long
abbrev wsX80 : List Cond := u_ws RX8 TX8 16
theorem nmX8 : ∀ a, a < 16 → ∀ b, b < 16 → a ≠ b → (TX8 a).2.1 ≠ (TX8 b).2.1 := by decide +kernel
theorem tyX8_ok : ∀ k, k < 16 → parseFieldDescriptor (TX8 k).2.2.1 = some (tyX8 k) := by decide +kernel
abbrev cX8_init : ByteArray := prog_10_method_1_code
def yX8_init : MethodName := ⟨RX8, "<init>", "()V"⟩
abbrev cX8_in : ByteArray := prog_10_method_3_code
def yX8_in : MethodName := ⟨RX8, "in", "(JJJ)Z"⟩
abbrev cX8_size : ByteArray := prog_10_method_4_code
def yX8_size : MethodName := ⟨RX8, "size", "(I)I"⟩
abbrev cX8_sign : ByteArray := prog_10_method_5_code
def yX8_sign : MethodName := ⟨RX8, "sign", "(I)I"⟩
abbrev cX8_copyRow : ByteArray := prog_10_method_6_code
def yX8_copyRow : MethodName := ⟨RX8, "copyRow", "(II)V"⟩
abbrev cX8_minds : ByteArray := prog_10_method_7_code
def yX8_minds : MethodName := ⟨RX8, "minds", "()V"⟩
abbrev cX8_isPiece : ByteArray := prog_10_method_8_code
def yX8_isPiece : MethodName := ⟨RX8, "isPiece", "(IIII)Z"⟩
abbrev cX8_turnsOf : ByteArray := prog_10_method_9_code
def yX8_turnsOf : MethodName := ⟨RX8, "turnsOf", "(III)I"⟩
abbrev cX8_stepsOf : ByteArray := prog_10_method_10_code
def yX8_stepsOf : MethodName := ⟨RX8, "stepsOf", "(IIII)I"⟩
abbrev cX8_stepsAt : ByteArray := prog_10_method_11_code
def yX8_stepsAt : MethodName := ⟨RX8, "stepsAt", "(I)I"⟩
abbrev cX8_stillNow : ByteArray := prog_10_method_12_code
def yX8_stillNow : MethodName := ⟨RX8, "stillNow", "(I)I"⟩
abbrev cX8_leftOf : ByteArray := prog_10_method_13_code
def yX8_leftOf : MethodName := ⟨RX8, "leftOf", "(I)I"⟩
abbrev cX8_gone : ByteArray := prog_10_method_14_code
def yX8_gone : MethodName := ⟨RX8, "gone", "(IIII)I"⟩
abbrev cX8_goes : ByteArray := prog_10_method_15_code
def yX8_goes : MethodName := ⟨RX8, "goes", "(III)V"⟩
abbrev cX8_line : ByteArray := prog_10_method_16_code
def yX8_line : MethodName := ⟨RX8, "line", "(I)V"⟩
abbrev cX8_even : ByteArray := prog_10_method_17_code
def yX8_even : MethodName := ⟨RX8, "even", "(I)V"⟩
abbrev cX8_arc : ByteArray := prog_10_method_18_code
def yX8_arc : MethodName := ⟨RX8, "arc", "(I)V"⟩
abbrev cX8_begins : ByteArray := prog_10_method_19_code
def yX8_begins : MethodName := ⟨RX8, "begins", "(I)V"⟩
abbrev cX8_steps : ByteArray := prog_10_method_20_code
def yX8_steps : MethodName := ⟨RX8, "steps", "(I)Z"⟩
abbrev cX8_isAxis : ByteArray := prog_10_method_21_code
def yX8_isAxis : MethodName := ⟨RX8, "isAxis", "(I)Z"⟩
abbrev cX8_place : ByteArray := prog_10_method_22_code
def yX8_place : MethodName := ⟨RX8, "place", "(I)I"⟩
abbrev cX8_piece : ByteArray := prog_10_method_23_code
def yX8_piece : MethodName := ⟨RX8, "piece", "(II)I"⟩
abbrev cX8_kinds : ByteArray := prog_10_method_24_code
def yX8_kinds : MethodName := ⟨RX8, "kinds", "()I"⟩
abbrev cX8_count : ByteArray := prog_10_method_25_code
def yX8_count : MethodName := ⟨RX8, "count", "(I)I"⟩
abbrev cX8_type : ByteArray := prog_10_method_26_code
def yX8_type : MethodName := ⟨RX8, "type", "(I)I"⟩
abbrev cX8_here : ByteArray := prog_10_method_27_code
def yX8_here : MethodName := ⟨RX8, "here", "()I"⟩
abbrev cX8_isDigit : ByteArray := prog_10_method_28_code
def yX8_isDigit : MethodName := ⟨RX8, "isDigit", "(I)Z"⟩
abbrev cX8_takesNumber : ByteArray := prog_10_method_29_code
def yX8_takesNumber : MethodName := ⟨RX8, "takesNumber", "()Z"⟩
abbrev cX8_kindOf : ByteArray := prog_10_method_30_code
def yX8_kindOf : MethodName := ⟨RX8, "kindOf", "(I)I"⟩
abbrev cX8_takesPiece : ByteArray := prog_10_method_31_code
def yX8_takesPiece : MethodName := ⟨RX8, "takesPiece", "(I)Z"⟩
abbrev cX8_takesPlan : ByteArray := prog_10_method_32_code
def yX8_takesPlan : MethodName := ⟨RX8, "takesPlan", "()I"⟩
abbrev cX8_plan : ByteArray := prog_10_method_33_code
def yX8_plan : MethodName := ⟨RX8, "plan", "()I"⟩
abbrev cX8_lays : ByteArray := prog_10_method_34_code
def yX8_lays : MethodName := ⟨RX8, "lays", "(IIIII)V"⟩
abbrev cX8_push : ByteArray := prog_10_method_35_code
def yX8_push : MethodName := ⟨RX8, "push", "(IIII)I"⟩
abbrev cX8_jump : ByteArray := prog_10_method_36_code
def yX8_jump : MethodName := ⟨RX8, "jump", "(IIII)I"⟩
abbrev cX8_purge : ByteArray := prog_10_method_37_code
def yX8_purge : MethodName := ⟨RX8, "purge", "(I)I"⟩
abbrev cX8_stop : ByteArray := prog_10_method_38_code
def yX8_stop : MethodName := ⟨RX8, "stop", "()I"⟩
abbrev cX8_hold : ByteArray := prog_10_method_39_code
def yX8_hold : MethodName := ⟨RX8, "hold", "()I"⟩
abbrev cX8_step : ByteArray := prog_10_method_40_code
def yX8_step : MethodName := ⟨RX8, "step", "(I)I"⟩
abbrev cX8_drift : ByteArray := prog_10_method_41_code
def yX8_drift : MethodName := ⟨RX8, "drift", "(I)I"⟩
abbrev cX8_undo : ByteArray := prog_10_method_42_code
def yX8_undo : MethodName := ⟨RX8, "undo", "()I"⟩
abbrev cX8_seed : ByteArray := prog_10_method_43_code
def yX8_seed : MethodName := ⟨RX8, "seed", "(I)I"⟩
abbrev cX8_where : ByteArray := prog_10_method_44_code
def yX8_where : MethodName := ⟨RX8, "where", "(II)I"⟩
abbrev cX8_pulses : ByteArray := prog_10_method_45_code
def yX8_pulses : MethodName := ⟨RX8, "pulses", "(II)I"⟩
abbrev cX8_next : ByteArray := prog_10_method_46_code
def yX8_next : MethodName := ⟨RX8, "next", "(II)I"⟩
abbrev cX8_meets : ByteArray := prog_10_method_47_code
def yX8_meets : MethodName := ⟨RX8, "meets", "(III)I"⟩
abbrev cX8_reach : ByteArray := prog_10_method_48_code
def yX8_reach : MethodName := ⟨RX8, "reach", "(II)I"⟩
abbrev cX8_offBy : ByteArray := prog_10_method_49_code
def yX8_offBy : MethodName := ⟨RX8, "offBy", "(I)V"⟩
abbrev cX8_common : ByteArray := prog_10_method_50_code
def yX8_common : MethodName := ⟨RX8, "common", "(JJ)J"⟩
abbrev cX8_off : ByteArray := prog_10_method_51_code
def yX8_off : MethodName := ⟨RX8, "off", "(I)I"⟩
abbrev cX8_lost : ByteArray := prog_10_method_52_code
def yX8_lost : MethodName := ⟨RX8, "lost", "(IIIIII)I"⟩
abbrev cX8_image : ByteArray := prog_10_method_53_code
def yX8_image : MethodName := ⟨RX8, "image", "()I"⟩
abbrev cX8_restore : ByteArray := prog_10_method_54_code
def yX8_restore : MethodName := ⟨RX8, "restore", "()I"⟩
abbrev cX8_isSheet : ByteArray := prog_10_method_55_code
def yX8_isSheet : MethodName := ⟨RX8, "isSheet", "(I)Z"⟩
abbrev cX8_isLane : ByteArray := prog_10_method_56_code
def yX8_isLane : MethodName := ⟨RX8, "isLane", "(I)Z"⟩
abbrev cX8_low : ByteArray := prog_10_method_57_code
def yX8_low : MethodName := ⟨RX8, "low", "(IJ)J"⟩
abbrev cX8_against : ByteArray := prog_10_method_58_code
def yX8_against : MethodName := ⟨RX8, "against", "(IIII)I"⟩
abbrev cX8_cameBy : ByteArray := prog_10_method_59_code
def yX8_cameBy : MethodName := ⟨RX8, "cameBy", "(IIII)Z"⟩
abbrev cX8_came : ByteArray := prog_10_method_60_code
def yX8_came : MethodName := ⟨RX8, "came", "(IIII)I"⟩
abbrev cX8_film : ByteArray := prog_10_method_61_code
def yX8_film : MethodName := ⟨RX8, "film", "(IIII)I"⟩
abbrev cX8_sheet : ByteArray := prog_10_method_62_code
def yX8_sheet : MethodName := ⟨RX8, "sheet", "(III)I"⟩
abbrev cX8_drop : ByteArray := prog_10_method_63_code
def yX8_drop : MethodName := ⟨RX8, "drop", "(I)I"⟩
abbrev cX8_item : ByteArray := prog_10_method_64_code
def yX8_item : MethodName := ⟨RX8, "item", "(IIIJ)I"⟩
abbrev cX8_copy : ByteArray := prog_10_method_65_code
def yX8_copy : MethodName := ⟨RX8, "copy", "(IIIII)I"⟩
def RJ11 : String := "java/lang/Character"
def TJ11 : u_T := fun k => match k with
  | _ => ("", "", "", false)
def tyJ11 : Nat → FieldType := fun k => match k with
  | _ => .int
abbrev wsJ110 : List Cond := u_ws RJ11 TJ11 0
theorem nmJ11 : ∀ a, a < 0 → ∀ b, b < 0 → a ≠ b → (TJ11 a).2.1 ≠ (TJ11 b).2.1 := by decide +kernel
theorem tyJ11_ok : ∀ k, k < 0 → parseFieldDescriptor (TJ11 k).2.2.1 = some (tyJ11 k) := by decide +kernel
abbrev cJ11_isValidCodePoint_9a6ad : ByteArray := prog_11_method_11_code
def yJ11_isValidCodePoint_9a6ad : MethodName := ⟨RJ11, "isValidCodePoint", "(I)Z"⟩
abbrev cJ11_highSurrogate_5068e : ByteArray := prog_11_method_28_code
def yJ11_highSurrogate_5068e : MethodName := ⟨RJ11, "highSurrogate", "(I)C"⟩
abbrev cJ11_lowSurrogate_5068e : ByteArray := prog_11_method_29_code
def yJ11_lowSurrogate_5068e : MethodName := ⟨RJ11, "lowSurrogate", "(I)C"⟩
def RJ9 : String := "java/lang/Math"
def TJ9 : u_T := fun k => match k with
  | _ => ("", "", "", false)
def tyJ9 : Nat → FieldType := fun k => match k with
  | _ => .int
abbrev wsJ90 : List Cond := u_ws RJ9 TJ9 0
theorem nmJ9 : ∀ a, a < 0 → ∀ b, b < 0 → a ≠ b → (TJ9 a).2.1 ≠ (TJ9 b).2.1 := by decide +kernel
theorem tyJ9_ok : ∀ k, k < 0 → parseFieldDescriptor (TJ9 k).2.2.1 = some (tyJ9 k) := by decide +kernel
abbrev cJ9_abs_0f7a4 : ByteArray := prog_12_method_59_code
def yJ9_abs_0f7a4 : MethodName := ⟨RJ9, "abs", "(I)I"⟩
abbrev cJ9_max_7cf53 : ByteArray := prog_12_method_65_code
def yJ9_max_7cf53 : MethodName := ⟨RJ9, "max", "(II)I"⟩
abbrev cJ9_min_7cf53 : ByteArray := prog_12_method_69_code
def yJ9_min_7cf53 : MethodName := ⟨RJ9, "min", "(II)I"⟩
def RJ0 : String := "java/lang/String"
def TJ0 : u_T := fun k => match k with
  | _ => ("", "", "", false)
def tyJ0 : Nat → FieldType := fun k => match k with
  | _ => .int
abbrev wsJ00 : List Cond := u_ws RJ0 TJ0 0
theorem nmJ0 : ∀ a, a < 0 → ∀ b, b < 0 → a ≠ b → (TJ0 a).2.1 ≠ (TJ0 b).2.1 := by decide +kernel
theorem tyJ0_ok : ∀ k, k < 0 → parseFieldDescriptor (TJ0 k).2.2.1 = some (tyJ0 k) := by decide +kernel
abbrev cJ0_length_8abf5 : ByteArray := prog_13_method_54_code
def yJ0_length_8abf5 : MethodName := ⟨RJ0, "length", "()I"⟩
abbrev cJ0_indexOf_0f7a4 : ByteArray := prog_13_method_79_code
def yJ0_indexOf_0f7a4 : MethodName := ⟨RJ0, "indexOf", "(I)I"⟩
abbrev cJ0_indexOf_7cf53 : ByteArray := prog_13_method_80_code
def yJ0_indexOf_7cf53 : MethodName := ⟨RJ0, "indexOf", "(II)I"⟩
abbrev cJ0_coder_7d493 : ByteArray := prog_13_method_152_code
def yJ0_coder_7d493 : MethodName := ⟨RJ0, "coder", "()B"⟩
abbrev cJ0_isLatin1_aae02 : ByteArray := prog_13_method_154_code
def yJ0_isLatin1_aae02 : MethodName := ⟨RJ0, "isLatin1", "()Z"⟩
abbrev cJ0_checkBoundsBeginEnd_23922 : ByteArray := prog_13_method_158_code
def yJ0_checkBoundsBeginEnd_23922 : MethodName := ⟨RJ0, "checkBoundsBeginEnd", "(III)V"⟩
def RJ1 : String := "java/lang/StringLatin1"
def TJ1 : u_T := fun k => match k with
  | _ => ("", "", "", false)
def tyJ1 : Nat → FieldType := fun k => match k with
  | _ => .int
abbrev wsJ10 : List Cond := u_ws RJ1 TJ1 0
theorem nmJ1 : ∀ a, a < 0 → ∀ b, b < 0 → a ≠ b → (TJ1 a).2.1 ≠ (TJ1 b).2.1 := by decide +kernel
theorem tyJ1_ok : ∀ k, k < 0 → parseFieldDescriptor (TJ1 k).2.2.1 = some (tyJ1 k) := by decide +kernel
abbrev cJ1_canEncode_9a6ad : ByteArray := prog_14_method_4_code
def yJ1_canEncode_9a6ad : MethodName := ⟨RJ1, "canEncode", "(I)Z"⟩
abbrev cJ1_indexOf_4cfef : ByteArray := prog_14_method_22_code
def yJ1_indexOf_4cfef : MethodName := ⟨RJ1, "indexOf", "([BIII)I"⟩
abbrev cJ1_indexOfChar_4cfef : ByteArray := prog_14_method_23_code
def yJ1_indexOfChar_4cfef : MethodName := ⟨RJ1, "indexOfChar", "([BIII)I"⟩
def RJ2 : String := "java/lang/StringUTF16"
def TJ2 : u_T := fun k => match k with
  | _ => ("", "", "", false)
def tyJ2 : Nat → FieldType := fun k => match k with
  | _ => .int
abbrev wsJ20 : List Cond := u_ws RJ2 TJ2 0
theorem nmJ2 : ∀ a, a < 0 → ∀ b, b < 0 → a ≠ b → (TJ2 a).2.1 ≠ (TJ2 b).2.1 := by decide +kernel
theorem tyJ2_ok : ∀ k, k < 0 → parseFieldDescriptor (TJ2 k).2.2.1 = some (tyJ2 k) := by decide +kernel
abbrev cJ2_getChar_3b067 : ByteArray := prog_15_method_5_code
def yJ2_getChar_3b067 : MethodName := ⟨RJ2, "getChar", "([BI)C"⟩
abbrev cJ2_length_9d52b : ByteArray := prog_15_method_6_code
def yJ2_length_9d52b : MethodName := ⟨RJ2, "length", "([B)I"⟩
abbrev cJ2_indexOf_4cfef : ByteArray := prog_15_method_40_code
def yJ2_indexOf_4cfef : MethodName := ⟨RJ2, "indexOf", "([BIII)I"⟩
abbrev cJ2_indexOfChar_4cfef : ByteArray := prog_15_method_47_code
def yJ2_indexOfChar_4cfef : MethodName := ⟨RJ2, "indexOfChar", "([BIII)I"⟩
abbrev cJ2_indexOfCharUnsafe_4cfef : ByteArray := prog_15_method_48_code
def yJ2_indexOfCharUnsafe_4cfef : MethodName := ⟨RJ2, "indexOfCharUnsafe", "([BIII)I"⟩
abbrev cJ2_indexOfSupplementary_4cfef : ByteArray := prog_15_method_49_code
def yJ2_indexOfSupplementary_4cfef : MethodName := ⟨RJ2, "indexOfSupplementary", "([BIII)I"⟩
abbrev cJ2_checkBoundsBeginEnd_d044e : ByteArray := prog_15_method_93_code
def yJ2_checkBoundsBeginEnd_d044e : MethodName := ⟨RJ2, "checkBoundsBeginEnd", "(II[B)V"⟩
def RJ10 : String := "java/lang/System"
def TJ10 : u_T := fun k => match k with
  | _ => ("", "", "", false)
def tyJ10 : Nat → FieldType := fun k => match k with
  | _ => .int
abbrev wsJ100 : List Cond := u_ws RJ10 TJ10 0
theorem nmJ10 : ∀ a, a < 0 → ∀ b, b < 0 → a ≠ b → (TJ10 a).2.1 ≠ (TJ10 b).2.1 := by decide +kernel
theorem tyJ10_ok : ∀ k, k < 0 → parseFieldDescriptor (TJ10 k).2.2.1 = some (tyJ10 k) := by decide +kernel
def RJ3 : String := "jdk/internal/util/Preconditions"
def TJ3 : u_T := fun k => match k with
  | _ => ("", "", "", false)
def tyJ3 : Nat → FieldType := fun k => match k with
  | _ => .int
abbrev wsJ30 : List Cond := u_ws RJ3 TJ3 0
theorem nmJ3 : ∀ a, a < 0 → ∀ b, b < 0 → a ≠ b → (TJ3 a).2.1 ≠ (TJ3 b).2.1 := by decide +kernel
theorem tyJ3_ok : ∀ k, k < 0 → parseFieldDescriptor (TJ3 k).2.2.1 = some (tyJ3 k) := by decide +kernel
abbrev cJ3_checkFromToIndex_8c36e : ByteArray := prog_17_method_12_code
def yJ3_checkFromToIndex_8c36e : MethodName := ⟨RJ3, "checkFromToIndex", "(IIILjava/util/function/BiFunction;)I"⟩
def RL : String := "PulsedAxesLaw"
abbrev cL_law : ByteArray := code
def yL_law : MethodName := ⟨RL, "law", "([I)Z"⟩
abbrev vwCl : List vw_C := [(RX0, TX0, 2), (RX1, TX1, 2), (RX2, TX2, 9), (RX3, TX3, 6), (RX4, TX4, 4), (RX5, TX5, 7), (RX6, TX6, 6), (RX7, TX7, 9), (RX8, TX8, 16)]
end
section
/-! THE ABSTRACT MACHINE: cells by their number since the law's start ('ax_' : ids instead of addresses; the address of id i is b + i); contracts ax_C and the walk ax_T over a heap that is a function of ids. -/
abbrev ax_E : Type := (Nat × vp_A) ⊕ (Nat × List Value)
abbrev ax_H : Type := Nat → Option ax_E
abbrev ax_Y : Type := (Nat → ClassId) × Nat × Nat
/-- an array of ints, of longs, of chars; an array of references of class tag t; an object of class ci -/
abbrev ax_I (n : Nat) (f : Nat → Int32) : ax_E := .inl (0, n, .inl f)
abbrev ax_L (n : Nat) (f : Nat → Int64) : ax_E := .inl (1, n, .inr (.inl f))
abbrev ax_B (n : Nat) (f : Nat → Int32) : ax_E := .inl (2, n, .inl f)
abbrev ax_R (t n : Nat) (f : Nat → Option Nat) : ax_E := .inl (t, n, .inr (.inr (.inr (.inr f))))
abbrev ax_O (ci : Nat) (fs : List Value) : ax_E := .inr (ci, fs)
def ax_v (b : Nat) (v : Value) : Value := match v with
  | .ref i => .ref (b + i)
  | .retAddr a => .ref a
  | .int x => .int x
  | .long x => .long x
  | .float x => .float x
  | .double x => .double x
  | .null => .null
def ax_a (b : Nat) (a : vp_A) : vp_A := match a with
  | (n, .inl f) => (n, .inl f)
  | (n, .inr (.inl f)) => (n, .inr (.inl f))
  | (n, .inr (.inr (.inl f))) => (n, .inr (.inr (.inl f)))
  | (n, .inr (.inr (.inr (.inl f)))) => (n, .inr (.inr (.inr (.inl f))))
  | (n, .inr (.inr (.inr (.inr f)))) => (n, .inr (.inr (.inr (.inr (fun j => (f j).map (fun i => b + i))))))
def ax_e (cy : ax_Y) (b : Nat) (x : ax_E) : va_E := match x with
  | .inl (t, a) => .inl (cy.1 t, ax_a b a)
  | .inr (ci, fs) => .inr (ci, fs.map (ax_v b))
def hp (h : ax_H) (i : Nat) (x : ax_E) : ax_H := fun j => if j = i then some x else h j
theorem hp_s (h : ax_H) (i : Nat) (x : ax_E) : hp h i x i = some x := by simp [hp]
theorem hp_n (h : ax_H) {i j : Nat} (x : ax_E) (hj : j ≠ i) : hp h i x j = h j := by simp [hp, hj]
theorem hp_hp (h : ax_H) (i : Nat) (x y : ax_E) : hp (hp h i x) i y = hp h i y := by
  funext j; by_cases hj : j = i <;> simp [hp, hj]
theorem hp_id (h : ax_H) {i : Nat} {x : ax_E} (hi : h i = some x) : hp h i x = h := by
  funext j; by_cases hj : j = i
  · subst hj; simp [hp, hi]
  · simp [hp, hj]
theorem hp_comm (h : ax_H) {i j : Nat} (x y : ax_E) (hij : i ≠ j) : hp (hp h i x) j y = hp (hp h j y) i x := by
  funext k
  by_cases h1 : k = i
  · subst h1; simp [hp, hij]
  · by_cases h2 : k = j
    · subst h2; simp [hp, h1]
    · simp [hp, h1, h2]
def ax_tys (cy : ax_Y) : List (ClassId × FieldType) := [(cy.1 0, .int), (cy.1 1, .long), (cy.1 2, .char), (cy.1 3, .object RX2), (cy.1 4, .object RX4), (cy.1 5, .object RX5)]
def ax_Tb : List Cond := lw_tbl.filter goodWord
def ax_isN (w : Cond) : Bool := match w with
  | .fieldLinkNest _ _ _ _ _ _ => true
  | .methodLinkNest _ _ _ _ => true
  | _ => false
def ax_Nw : List Cond := tables_1.filter ax_isN
def ax_Z (b : Nat) (cy : ax_Y) (s : State) : Prop := vk_S 1 [5] [[108, 102, 101, 99, 114]] (fun _ => cy.2.1) (fun _ => cy.2.2) (fun q => b ≤ q) s s.heap ∧ vk_R RX3 48 "lfecr" cy.2.1 s ∧ va_Z "java/lang/String" "COMPACT_STRINGS" "Z" (.int 1) (fun q => b ≤ q) s s.heap
def ax_K (G : va_G) (cy : ax_Y) (b : Nat) (s : State) : Prop := va_K G vwCl (ax_tys cy) s ∧ (∀ w ∈ ax_Nw, va_Nw w s) ∧ (va_AO RX2 s ∧ va_AO RX4 s ∧ va_AO RX5 s) ∧ ax_Z b cy s
theorem ax_K.moved {G : va_G} {cy : ax_Y} {b : Nat} {s U : State} (hW : s.WarmedH U.vm) (hh : ∀ q : Nat, q < s.heap.size → ¬ b ≤ q → U.heap[q]? = s.heap[q]?) (h : ax_K G cy b s) : ax_K G cy b U := by
  obtain ⟨h1, h2, ⟨h3, h4, h5⟩, z1, z2, z3⟩ := h
  refine ⟨va_K.moved hW.alike h1, fun w hw => ?_, ⟨va_AO.moved hW.alike h3, va_AO.moved hW.alike h4, va_AO.moved hW.alike h5⟩, (vk_S.moved hW.alike z1).kept hh, vk_R.warm hW z2, (va_Z.moved hW.alike z3).kept hh⟩
  have hn : ax_isN w = true := (List.mem_filter.mp hw).2
  have hz := h2 w hw
  cases w <;> first | exact va_Nw.warmF hW hz | exact va_Nw.warmM hW hz | (simp [ax_isN] at hn)
theorem ax_K.call {G : va_G} {cy : ax_Y} {b : Nat} {U : State} {g : JFrame} {mk : MethodId} {a : Array Value} (h : ax_K G cy b U) : ax_K G cy b (U.calling g mk a) := by
  obtain ⟨h1, h2, ⟨h3, h4, h5⟩, z1, z2, z3⟩ := h
  refine ⟨va_K.moved (u := U) (U := U.calling g mk a) (Vm.Alike.refl U.vm) h1, fun w hw => ?_, ⟨va_AO.moved (u := U) (U := U.calling g mk a) (Vm.Alike.refl U.vm) h3, va_AO.moved (u := U) (U := U.calling g mk a) (Vm.Alike.refl U.vm) h4, va_AO.moved (u := U) (U := U.calling g mk a) (Vm.Alike.refl U.vm) h5⟩, vk_S.moved (u := U) (U := U.calling g mk a) (Vm.Alike.refl U.vm) z1, vk_R.same (u := U) (U := U.calling g mk a) rfl z2, va_Z.moved (u := U) (U := U.calling g mk a) (Vm.Alike.refl U.vm) z3⟩
  have hn : ax_isN w = true := (List.mem_filter.mp hw).2
  have hz := h2 w hw
  cases w <;> first | exact va_Nw.same (u := U) (U := U.calling g mk a) rfl rfl hz | (simp [ax_isN] at hn)
def ax_Rep (G : va_G) (cy : ax_Y) (b n : Nat) (h : ax_H) (H : Heap) : Prop := H.size = b + n ∧ ∀ (i : Nat) (x : ax_E), h i = some x → va_at G vwCl (b + i, ax_e cy b x) H
theorem ax_Rep.set {G : va_G} {cy : ax_Y} {b n : Nat} {h : ax_H} {H H1 : Heap} {i : Nat} {x : ax_E} (hR : ax_Rep G cy b n h H) (hz : H1.size = H.size) (he : va_at G vwCl (b + i, ax_e cy b x) H1) (oq : ∀ q : Nat, q ≠ b + i → H1[q]? = H[q]?) : ax_Rep G cy b n (hp h i x) H1 := by
  refine ⟨by rw [hz]; exact hR.1, fun j y hj => ?_⟩
  by_cases hji : j = i
  · subst hji
    simp [hp] at hj
    subst hj
    exact he
  · rw [hp_n h x hji] at hj
    exact (hR.2 j y hj).kept (oq _ (by show b + j ≠ b + i; omega))
theorem ax_Rep.push {G : va_G} {cy : ax_Y} {b n : Nat} {h : ax_H} {H H1 : Heap} {x : ax_E} (hR : ax_Rep G cy b n h H) (hz : H1.size = H.size + 1) (he : va_at G vwCl (H.size, ax_e cy b x) H1) (oq : ∀ q : Nat, q < H.size → H1[q]? = H[q]?) : ax_Rep G cy b (n + 1) (hp h n x) H1 := by
  refine ⟨by rw [hz, hR.1]; omega, fun j y hj => ?_⟩
  by_cases hji : j = n
  · subst hji
    simp [hp] at hj
    subst hj
    rw [← hR.1]
    exact he
  · rw [hp_n h x hji] at hj
    have := hR.2 j y hj
    exact this.kept (oq _ this.lt)
def ax_hasL (b : Nat) (ls : Array Slot) (nL : Nat) (lv : List (Option Value)) : Prop := ls.size = nL ∧ lv_wf ls ∧ ∀ (i : Nat) (v : Value), lv[i]? = some (some v) → ls[i]? = some (.val (ax_v b v))
def ax_asc (b : Nat) (lv : List (Option Value)) : List (Nat × Value) := (List.range lv.length).filterMap (fun i => match lv[i]? with
  | some (some v) => some (i, ax_v b v)
  | _ => none)
theorem ax_asc_mem {b : Nat} {lv : List (Option Value)} {q : Nat × Value} : q ∈ ax_asc b lv ↔ ∃ v, lv[q.1]? = some (some v) ∧ q.2 = ax_v b v := by
  unfold ax_asc
  rw [List.mem_filterMap]
  constructor
  · rintro ⟨i, hi, h⟩
    split at h
    · rename_i v hv
      cases h
      exact ⟨v, hv, rfl⟩
    · cases h
  · rintro ⟨v, hv, h2⟩
    refine ⟨q.1, List.mem_range.mpr (List.getElem?_eq_some_iff.mp hv).1, ?_⟩
    rw [hv]
    show some (q.1, ax_v b v) = some q
    rw [← h2]
theorem ax_hasL.has {b : Nat} {ls : Array Slot} {nL : Nat} {lv : List (Option Value)} (h : ax_hasL b ls nL lv) : lv_has ls nL (ax_asc b lv) :=
  ⟨h.1, h.2.1, fun q hq => by obtain ⟨v, h1, h2⟩ := ax_asc_mem.mp hq; rw [h2]; exact h.2.2 _ _ h1⟩
theorem ax_vcat (b : Nat) (v : Value) (hv : ∀ a, v ≠ .retAddr a) : (ax_v b v).category = v.category := by cases v <;> first | rfl | exact absurd rfl (hv _)
theorem ax_vcat' (b : Nat) (v : Value) : (ax_v b v).category = v.category := by cases v <;> rfl
def ax_okst (lv : List (Option Value)) (i : Nat) : Bool := match i with
  | 0 => true
  | k + 1 => match lv[k]? with
    | some (some v) => v.category == 1
    | _ => true
theorem ax_st1 {b : Nat} {ls' : Array Slot} {nL i : Nat} {lv : List (Option Value)} {v : Value} (hok : ax_okst lv i = true)
    (h : lv_has ls' nL ((i, ax_v b v) :: (ax_asc b lv).filter (fun q => !(q.1 == i) && !(q.1 + 1 == i && q.2.category == 2)))) : ax_hasL b ls' nL (lv.set i (some v)) := by
  refine ⟨h.1, h.2.1, fun j w hj => ?_⟩
  by_cases hji : j = i
  · subst hji
    rw [List.getElem?_set] at hj
    simp at hj
    obtain ⟨-, rfl⟩ := hj
    exact h.2.2 (j, ax_v b v) List.mem_cons_self
  · rw [List.getElem?_set_ne (Ne.symm hji)] at hj
    refine h.2.2 (j, ax_v b w) (List.mem_cons_of_mem _ (List.mem_filter.mpr ⟨ax_asc_mem.mpr ⟨w, hj, rfl⟩, ?_⟩))
    simp only [Bool.and_eq_true, Bool.not_eq_true', beq_eq_false_iff_ne, ne_eq, Bool.and_eq_false_iff]
    refine ⟨hji, ?_⟩
    by_cases h1 : j + 1 = i
    · right
      subst h1
      simp only [ax_okst, hj, beq_iff_eq] at hok
      rw [ax_vcat', hok]
      decide
    · left; exact h1
theorem ax_st2 {b : Nat} {ls' : Array Slot} {nL i : Nat} {lv : List (Option Value)} {v : Value} (hok : ax_okst lv i = true)
    (h : lv_has ls' nL ((i, ax_v b v) :: (ax_asc b lv).filter (fun q => !(q.1 == i) && (!(q.1 == i + 1) && !(q.1 + 1 == i && q.2.category == 2))))) : ax_hasL b ls' nL ((lv.set i (some v)).set (i + 1) none) := by
  refine ⟨h.1, h.2.1, fun j w hj => ?_⟩
  by_cases hj1 : j = i + 1
  · subst hj1
    rw [List.getElem?_set] at hj
    simp at hj
  · rw [List.getElem?_set_ne (Ne.symm hj1)] at hj
    by_cases hji : j = i
    · subst hji
      rw [List.getElem?_set] at hj
      simp at hj
      obtain ⟨-, rfl⟩ := hj
      exact h.2.2 (j, ax_v b v) List.mem_cons_self
    · rw [List.getElem?_set_ne (Ne.symm hji)] at hj
      refine h.2.2 (j, ax_v b w) (List.mem_cons_of_mem _ (List.mem_filter.mpr ⟨ax_asc_mem.mpr ⟨w, hj, rfl⟩, ?_⟩))
      simp only [Bool.and_eq_true, Bool.not_eq_true', beq_eq_false_iff_ne, ne_eq, Bool.and_eq_false_iff]
      refine ⟨hji, hj1, ?_⟩
      by_cases h1 : j + 1 = i
      · right
        subst h1
        simp only [ax_okst, hj, beq_iff_eq] at hok
        rw [ax_vcat', hok]
        decide
      · left; exact h1
def ax_Ev (p : Program) (s : State) (m : MethodId) (args : Array Value) (meth : Method) (c : Code) (own nm : String) (cc : ByteArray) (nL : Nat) (ret : Option FieldType) : Prop :=
  p.tables.exec = Jvm.exec ∧ c.code = cc ∧ c.maxLocals = nL ∧ s.vm.findClass own = some m.cls ∧ (∀ w ∈ ax_Tb, w.before args s = true) ∧ meth.sig.returnType = ret ∧ meth.locks = false ∧ meth.name = nm
def ax_Rd (cc : ByteArray) (pc : Nat) (v : Option Value) : Prop := match v with
  | none => decode cc pc = .ok (.return_, 1)
  | some (.int _) => decode cc pc = .ok (.ireturn, 1)
  | some (.long _) => decode cc pc = .ok (.lreturn, 1)
  | _ => False
def ax_Rn (ret : Option FieldType) (v : Option Value) : Prop := match v with
  | none => ret = none
  | some (.int x) => ∃ ty, ret = some ty ∧ narrow ty (.int x) = .int x
  | some (.long _) => ret = some .long
  | _ => False
def ax_Rok (p : Program) (l : Launch) (e : Env) (R : Room) (s : State) (m : MethodId) (args : Array Value) (below : List Frame) (meth : Method) (c : Code) (G : va_G) (cy : ax_Y) (b : Nat) (cc : ByteArray) (ret : Option FieldType) (K : Option Value → ax_H → Nat → Prop) (mc ms : Nat) (Q : State → Prop) : Prop :=
  ∀ (v : Option Value) (h : ax_H) (n : Nat) (H : Heap) (locs : List Loc) (pc : Nat) (ls : Array Slot), K v h n → ax_Rd cc pc v → ax_Rn ret v → ax_Rep G cy b n h H → va_S (fun q => b ≤ q) s.heap H locs → W p l e R s m args below meth c H locs mc ms Q (F0 m pc ls (v.toList.map (ax_v b)))
/-- THE WALK: from pc on, with these locals, this stack, this heap, the method comes to its end with K -/
def ax_T (l : Launch) (G : va_G) (cy : ax_Y) (b : Nat) (R : Room) (own nm : String) (cc : ByteArray) (nL : Nat) (ret : Option FieldType) (K : Option Value → ax_H → Nat → Prop) (mc ms : Nat) (pc : Nat) (lv : List (Option Value)) (st : List Value) (h : ax_H) (n cells slots : Nat) : Prop :=
  ∀ (p : Program) (e : Env) (s : State) (m : MethodId) (args : Array Value) (below : List Frame) (meth : Method) (c : Code) (Q : State → Prop) (H : Heap) (locs : List Loc) (ls : Array Slot),
    ax_Ev p s m args meth c own nm cc nL ret → ax_K G cy b s → ax_Rok p l e R s m args below meth c G cy b cc ret K mc ms Q → ax_Rep G cy b n h H → va_S (fun q => b ≤ q) s.heap H locs → b ≤ s.heap.size → ax_hasL b ls nL lv →
    W p l e R s m args below meth c H locs cells slots Q (F0 m pc ls (st.map (ax_v b)))
def ax_rm (d mc ms : Nat) : Room := { frames := d, cells := mc, slots := ms, locals := 34 * d }
/-- THE CONTRACT of y at one launch: with these arguments and this heap it returns, and K of its answer, the heap behind it and how many cells there are -/
def ax_CM (l : Launch) (G : va_G) (cy : ax_Y) (b : Nat) (y : MethodName) (cc : ByteArray) (nL : Nat) (ret : Option FieldType) (d mc ms : Nat) (as : List Value) (h : ax_H) (n : Nat) (K : Option Value → ax_H → Nat → Prop) : Prop :=
  Met l y (Cond.code y cc nL ret :: ax_Tb) (ax_rm d mc ms) (fun a U => a = (as.map (ax_v b)).toArray ∧ b ≤ U.heap.size ∧ ax_Rep G cy b n h U.heap ∧ ax_K G cy b U)
    (fun _ st o t => ∃ (v : Option Value) (h' : ax_H) (n' : Nat), o = .returned (v.map (ax_v b)) ∧ K v h' n' ∧ ax_Rep G cy b n' h' t.heap ∧ st.heap.size ≤ t.heap.size ∧ ∀ q : Nat, q < st.heap.size → ¬ b ≤ q → t.heap[q]? = st.heap[q]?) mc ms (fun q => b ≤ q)
def ax_C (y : MethodName) (cc : ByteArray) (nL : Nat) (ret : Option FieldType) (d mc ms : Nat) (as : List Value) (h : ax_H) (n : Nat) (K : Option Value → ax_H → Nat → Prop) : Prop :=
  ∀ (l : Launch) (G : va_G) (cy : ax_Y) (b : Nat), ax_CM l G cy b y cc nL ret d mc ms as h n K
def ax_lv0 (as : List Value) : List (Option Value) := match as with
  | [] => []
  | v :: vs => if v.category = 2 then some v :: none :: ax_lv0 vs else some v :: ax_lv0 vs
def ax_lv (as : List Value) (nL : Nat) : List (Option Value) := ax_lv0 as ++ List.replicate (nL - (ax_lv0 as).length) none
theorem ax_lv0_mem (b : Nat) : ∀ (as : List Value) (k i : Nat) (v : Value), (ax_lv0 as)[i]? = some (some v) → (k + i, ax_v b v) ∈ lv_args k (as.map (ax_v b))
  | [], k, i, v, h => by simp [ax_lv0] at h
  | w :: ws, k, i, v, h => by
    rw [ax_lv0] at h
    show (k + i, ax_v b v) ∈ (k, ax_v b w) :: lv_args (if (ax_v b w).category = 2 then k + 2 else k + 1) (ws.map (ax_v b))
    rw [ax_vcat']
    by_cases hw : w.category = 2
    · rw [if_pos hw] at h ⊢
      match i, h with
      | 0, h => simp at h; subst h; exact List.mem_cons_self
      | 1, h => simp at h
      | i + 2, h =>
        have := ax_lv0_mem b ws (k + 2) i v (by simpa using h)
        rw [show k + (i + 2) = k + 2 + i by omega]
        exact List.mem_cons_of_mem _ this
    · rw [if_neg hw] at h ⊢
      match i, h with
      | 0, h => simp at h; subst h; exact List.mem_cons_self
      | i + 1, h =>
        have := ax_lv0_mem b ws (k + 1) i v (by simpa using h)
        rw [show k + (i + 1) = k + 1 + i by omega]
        exact List.mem_cons_of_mem _ this
theorem ax_sl_len (b : Nat) : ∀ as : List Value, (lg_sl (as.map (ax_v b))).length = (ax_lv0 as).length
  | [] => rfl
  | w :: ws => by
    have ih := ax_sl_len b ws
    rw [ax_lv0]
    by_cases hw : w.category = 2
    · have hw' : (ax_v b w).category = 2 := by rw [ax_vcat']; exact hw
      simp only [lg_sl, List.map_cons, List.flatMap_cons, hw', hw, if_true, List.length_append, List.length_cons, List.length_nil] at ih ⊢
      omega
    · have hw' : ¬ (ax_v b w).category = 2 := by rw [ax_vcat']; exact hw
      simp only [lg_sl, List.map_cons, List.flatMap_cons, hw', hw, if_false, List.length_append, List.length_cons, List.length_nil] at ih ⊢
      omega
theorem ax_CM.of {l : Launch} {G : va_G} {cy : ax_Y} {b : Nat} {y : MethodName} {cc : ByteArray} {nL : Nat} {ret : Option FieldType} {d mc ms : Nat} {as : List Value} {h : ax_H} {n : Nat} {K : Option Value → ax_H → Nat → Prop} {lv : List (Option Value)}
    (hy : plainName y.cls = true) (hlen : (ax_lv0 as).length ≤ nL) (hlv : ax_lv as nL = lv)
    (body : ax_T l G cy b (ax_rm d mc ms) y.cls y.name cc nL ret K mc ms 0 lv [] h n 0 0) : ax_CM l G cy b y cc nL ret d mc ms as h n K := by
  refine Met.ofW (cc := cc) (maxL := nL) (ret := ret) hy rfl ?_
  intro p e s m args below meth c s₁ B hml hv
  obtain ⟨rfl, hbs, hR, hK⟩ := hv
  have hts := atoms_spec (ws := Cond.code y cc nL ret :: ax_Tb) B.pre
  have hown : s.vm.findClass y.cls = some m.cls := findClass_of_methodNamed B.named
  have hin : meth.name = y.name := (name_of_methodNamed B.named B.method).1
  have hr : meth.sig.returnType = ret := B.returns
  have hlocks := B.notSynchronized
  have hx := B.exec
  have hb := B.bytes
  rw [lg_entry_eq]
  have hl := lv_entry (as.map (ax_v b)) (n := nL) (by rw [ax_sl_len]; exact hlen)
  refine body p e s m _ below meth c _ s.heap [] _ ⟨hx, hb, hml, hown, fun w hw => hts w (List.mem_cons_of_mem _ hw), hr, hlocks, hin⟩ hK ?_ hR va_S.rf hbs ?_
  · intro v h' n' H' locs pc ls hKv hd hn hRep hS
    cases v with
    | none =>
      exact W.vret hx hb (hr.trans hn) (fun t ht hW => ⟨none, h', n', rfl, hKv, by rw [ht]; exact hRep, by rw [ht]; exact hS.1, fun q q1 q2 => by rw [ht]; exact hS.2.1 q q1 q2⟩) hS.2.2 hd hlocks
    | some w =>
      cases w with
      | int x =>
        obtain ⟨ty, ht1, ht2⟩ := hn
        exact W.zret hx hb (hr.trans ht1) ht2 (fun t ht hW => ⟨some (.int x), h', n', rfl, hKv, by rw [ht]; exact hRep, by rw [ht]; exact hS.1, fun q q1 q2 => by rw [ht]; exact hS.2.1 q q1 q2⟩) hS.2.2 hd hlocks
      | long x =>
        exact W.lret hx hb (hr.trans hn) (fun t ht hW => ⟨some (.long x), h', n', rfl, hKv, by rw [ht]; exact hRep, by rw [ht]; exact hS.1, fun q q1 q2 => by rw [ht]; exact hS.2.1 q q1 q2⟩) hS.2.2 hd hlocks
      | _ => exact absurd hd (fun h => h)
  · refine ⟨hl.1, hl.2.1, fun i v hi => ?_⟩
    rw [← hlv] at hi
    have h0 : (ax_lv0 as)[i]? = some (some v) := by
      unfold ax_lv at hi
      by_cases hlt : i < (ax_lv0 as).length
      · rwa [List.getElem?_append_left hlt] at hi
      · rw [List.getElem?_append_right (by omega), List.getElem?_replicate] at hi
        split at hi <;> cases hi
    have hm := ax_lv0_mem b as 0 i v h0
    rw [Nat.zero_add] at hm
    exact hl.2.2 _ hm
theorem ax_C.of {y : MethodName} {cc : ByteArray} {nL : Nat} {ret : Option FieldType} {d mc ms : Nat} {as : List Value} {h : ax_H} {n : Nat} {K : Option Value → ax_H → Nat → Prop} {lv : List (Option Value)}
    (hy : plainName y.cls = true) (hlen : (ax_lv0 as).length ≤ nL) (hlv : ax_lv as nL = lv)
    (body : ∀ (l : Launch) (G : va_G) (cy : ax_Y) (b : Nat), ax_T l G cy b (ax_rm d mc ms) y.cls y.name cc nL ret K mc ms 0 lv [] h n 0 0) : ax_C y cc nL ret d mc ms as h n K :=
  fun l G cy b => ax_CM.of hy hlen hlv (body l G cy b)
end
section
section AXI
variable {l : Launch} {G : va_G} {cy : ax_Y} {b : Nat} {R : Room} {own nm : String} {cc : ByteArray} {nL : Nat} {ret : Option FieldType} {K : Option Value → ax_H → Nat → Prop} {mc ms pc : Nat} {lv : List (Option Value)} {st : List Value} {h : ax_H} {n cells slots : Nat}
theorem xt_iadd {x y : Int32} (hd : decode cc pc = .ok (.iadd, 1)) (k : ax_T l G cy b R own nm cc nL ret K mc ms (pc + 1) lv (.int (x + y) :: st) h n cells slots) : ax_T l G cy b R own nm cc nL ret K mc ms pc lv (.int y :: .int x :: st) h n cells slots := by
  intro p e s m args below meth c Q H locs ls E hK hR hRp hS hb hl
  exact lv_iadd E.1 E.2.1 hd (k p e s m args below meth c Q H locs ls E hK hR hRp hS hb hl)
theorem xt_isub {x y : Int32} (hd : decode cc pc = .ok (.isub, 1)) (k : ax_T l G cy b R own nm cc nL ret K mc ms (pc + 1) lv (.int (x - y) :: st) h n cells slots) : ax_T l G cy b R own nm cc nL ret K mc ms pc lv (.int y :: .int x :: st) h n cells slots := by
  intro p e s m args below meth c Q H locs ls E hK hR hRp hS hb hl
  exact lv_isub E.1 E.2.1 hd (k p e s m args below meth c Q H locs ls E hK hR hRp hS hb hl)
theorem xt_imul {x y : Int32} (hd : decode cc pc = .ok (.imul, 1)) (k : ax_T l G cy b R own nm cc nL ret K mc ms (pc + 1) lv (.int (x * y) :: st) h n cells slots) : ax_T l G cy b R own nm cc nL ret K mc ms pc lv (.int y :: .int x :: st) h n cells slots := by
  intro p e s m args below meth c Q H locs ls E hK hR hRp hS hb hl
  exact lv_imul E.1 E.2.1 hd (k p e s m args below meth c Q H locs ls E hK hR hRp hS hb hl)
theorem xt_iand {x y : Int32} (hd : decode cc pc = .ok (.iand, 1)) (k : ax_T l G cy b R own nm cc nL ret K mc ms (pc + 1) lv (.int (x &&& y) :: st) h n cells slots) : ax_T l G cy b R own nm cc nL ret K mc ms pc lv (.int y :: .int x :: st) h n cells slots := by
  intro p e s m args below meth c Q H locs ls E hK hR hRp hS hb hl
  exact lv_iand E.1 E.2.1 hd (k p e s m args below meth c Q H locs ls E hK hR hRp hS hb hl)
theorem xt_ior {x y : Int32} (hd : decode cc pc = .ok (.ior, 1)) (k : ax_T l G cy b R own nm cc nL ret K mc ms (pc + 1) lv (.int (x ||| y) :: st) h n cells slots) : ax_T l G cy b R own nm cc nL ret K mc ms pc lv (.int y :: .int x :: st) h n cells slots := by
  intro p e s m args below meth c Q H locs ls E hK hR hRp hS hb hl
  exact lv_ior E.1 E.2.1 hd (k p e s m args below meth c Q H locs ls E hK hR hRp hS hb hl)
theorem xt_ixor {x y : Int32} (hd : decode cc pc = .ok (.ixor, 1)) (k : ax_T l G cy b R own nm cc nL ret K mc ms (pc + 1) lv (.int (x ^^^ y) :: st) h n cells slots) : ax_T l G cy b R own nm cc nL ret K mc ms pc lv (.int y :: .int x :: st) h n cells slots := by
  intro p e s m args below meth c Q H locs ls E hK hR hRp hS hb hl
  exact lv_ixor E.1 E.2.1 hd (k p e s m args below meth c Q H locs ls E hK hR hRp hS hb hl)
theorem xt_ishl {x y : Int32} (hd : decode cc pc = .ok (.ishl, 1)) (k : ax_T l G cy b R own nm cc nL ret K mc ms (pc + 1) lv (.int (x <<< (y &&& 31)) :: st) h n cells slots) : ax_T l G cy b R own nm cc nL ret K mc ms pc lv (.int y :: .int x :: st) h n cells slots := by
  intro p e s m args below meth c Q H locs ls E hK hR hRp hS hb hl
  exact lv_ishl E.1 E.2.1 hd (k p e s m args below meth c Q H locs ls E hK hR hRp hS hb hl)
theorem xt_ishr {x y : Int32} (hd : decode cc pc = .ok (.ishr, 1)) (k : ax_T l G cy b R own nm cc nL ret K mc ms (pc + 1) lv (.int (x >>> (y &&& 31)) :: st) h n cells slots) : ax_T l G cy b R own nm cc nL ret K mc ms pc lv (.int y :: .int x :: st) h n cells slots := by
  intro p e s m args below meth c Q H locs ls E hK hR hRp hS hb hl
  exact lv_ishr E.1 E.2.1 hd (k p e s m args below meth c Q H locs ls E hK hR hRp hS hb hl)
theorem xt_idiv {x y : Int32} (hd : decode cc pc = .ok (.idiv, 1)) (hne : ¬ y = 0) (k : ax_T l G cy b R own nm cc nL ret K mc ms (pc + 1) lv (.int (x / y) :: st) h n cells slots) : ax_T l G cy b R own nm cc nL ret K mc ms pc lv (.int y :: .int x :: st) h n cells slots := by
  intro p e s m args below meth c Q H locs ls E hK hR hRp hS hb hl
  exact lv_idiv E.1 E.2.1 hd hne (k p e s m args below meth c Q H locs ls E hK hR hRp hS hb hl)
theorem xt_irem {x y : Int32} (hd : decode cc pc = .ok (.irem, 1)) (hne : ¬ y = 0) (k : ax_T l G cy b R own nm cc nL ret K mc ms (pc + 1) lv (.int (x - x / y * y) :: st) h n cells slots) : ax_T l G cy b R own nm cc nL ret K mc ms pc lv (.int y :: .int x :: st) h n cells slots := by
  intro p e s m args below meth c Q H locs ls E hK hR hRp hS hb hl
  exact lv_irem E.1 E.2.1 hd hne (k p e s m args below meth c Q H locs ls E hK hR hRp hS hb hl)
theorem xt_ineg {x : Int32} (hd : decode cc pc = .ok (.ineg, 1)) (k : ax_T l G cy b R own nm cc nL ret K mc ms (pc + 1) lv (.int (-x) :: st) h n cells slots) : ax_T l G cy b R own nm cc nL ret K mc ms pc lv (.int x :: st) h n cells slots := by
  intro p e s m args below meth c Q H locs ls E hK hR hRp hS hb hl
  exact lv_ineg E.1 E.2.1 hd (k p e s m args below meth c Q H locs ls E hK hR hRp hS hb hl)
theorem xt_iushr {x y : Int32} (hd : decode cc pc = .ok (.iushr, 1)) (k : ax_T l G cy b R own nm cc nL ret K mc ms (pc + 1) lv (.int (x.toUInt32 >>> (y.toUInt32 &&& Int32.toUInt32 31)).toInt32 :: st) h n cells slots) : ax_T l G cy b R own nm cc nL ret K mc ms pc lv (.int y :: .int x :: st) h n cells slots := by
  intro p e s m args below meth c Q H locs ls E hK hR hRp hS hb hl
  exact lv_iushr E.1 E.2.1 hd rfl (k p e s m args below meth c Q H locs ls E hK hR hRp hS hb hl)
theorem xt_ladd {x y : Int64} (hd : decode cc pc = .ok (.ladd, 1)) (k : ax_T l G cy b R own nm cc nL ret K mc ms (pc + 1) lv (.long (x + y) :: st) h n cells slots) : ax_T l G cy b R own nm cc nL ret K mc ms pc lv (.long y :: .long x :: st) h n cells slots := by
  intro p e s m args below meth c Q H locs ls E hK hR hRp hS hb hl
  exact lv_ladd E.1 E.2.1 hd (k p e s m args below meth c Q H locs ls E hK hR hRp hS hb hl)
theorem xt_lsub {x y : Int64} (hd : decode cc pc = .ok (.lsub, 1)) (k : ax_T l G cy b R own nm cc nL ret K mc ms (pc + 1) lv (.long (x - y) :: st) h n cells slots) : ax_T l G cy b R own nm cc nL ret K mc ms pc lv (.long y :: .long x :: st) h n cells slots := by
  intro p e s m args below meth c Q H locs ls E hK hR hRp hS hb hl
  exact lv_lsub E.1 E.2.1 hd (k p e s m args below meth c Q H locs ls E hK hR hRp hS hb hl)
theorem xt_lmul {x y : Int64} (hd : decode cc pc = .ok (.lmul, 1)) (k : ax_T l G cy b R own nm cc nL ret K mc ms (pc + 1) lv (.long (x * y) :: st) h n cells slots) : ax_T l G cy b R own nm cc nL ret K mc ms pc lv (.long y :: .long x :: st) h n cells slots := by
  intro p e s m args below meth c Q H locs ls E hK hR hRp hS hb hl
  exact lv_lmul E.1 E.2.1 hd (k p e s m args below meth c Q H locs ls E hK hR hRp hS hb hl)
theorem xt_land {x y : Int64} (hd : decode cc pc = .ok (.land, 1)) (k : ax_T l G cy b R own nm cc nL ret K mc ms (pc + 1) lv (.long (x &&& y) :: st) h n cells slots) : ax_T l G cy b R own nm cc nL ret K mc ms pc lv (.long y :: .long x :: st) h n cells slots := by
  intro p e s m args below meth c Q H locs ls E hK hR hRp hS hb hl
  exact lv_land E.1 E.2.1 hd (k p e s m args below meth c Q H locs ls E hK hR hRp hS hb hl)
theorem xt_lor {x y : Int64} (hd : decode cc pc = .ok (.lor, 1)) (k : ax_T l G cy b R own nm cc nL ret K mc ms (pc + 1) lv (.long (x ||| y) :: st) h n cells slots) : ax_T l G cy b R own nm cc nL ret K mc ms pc lv (.long y :: .long x :: st) h n cells slots := by
  intro p e s m args below meth c Q H locs ls E hK hR hRp hS hb hl
  exact lv_lor E.1 E.2.1 hd (k p e s m args below meth c Q H locs ls E hK hR hRp hS hb hl)
theorem xt_ldiv {x y : Int64} (hd : decode cc pc = .ok (.ldiv, 1)) (hne : ¬ y = 0) (k : ax_T l G cy b R own nm cc nL ret K mc ms (pc + 1) lv (.long (x / y) :: st) h n cells slots) : ax_T l G cy b R own nm cc nL ret K mc ms pc lv (.long y :: .long x :: st) h n cells slots := by
  intro p e s m args below meth c Q H locs ls E hK hR hRp hS hb hl
  exact lv_ldiv E.1 E.2.1 hd hne (k p e s m args below meth c Q H locs ls E hK hR hRp hS hb hl)
theorem xt_lrem {x y : Int64} (hd : decode cc pc = .ok (.lrem, 1)) (hne : ¬ y = 0) (k : ax_T l G cy b R own nm cc nL ret K mc ms (pc + 1) lv (.long (x - x / y * y) :: st) h n cells slots) : ax_T l G cy b R own nm cc nL ret K mc ms pc lv (.long y :: .long x :: st) h n cells slots := by
  intro p e s m args below meth c Q H locs ls E hK hR hRp hS hb hl
  exact lv_lrem E.1 E.2.1 hd hne (k p e s m args below meth c Q H locs ls E hK hR hRp hS hb hl)
theorem xt_lshl {x : Int64} {y : Int32} (hd : decode cc pc = .ok (.lshl, 1)) (k : ax_T l G cy b R own nm cc nL ret K mc ms (pc + 1) lv (.long (x <<< (y.toInt64 &&& 63)) :: st) h n cells slots) : ax_T l G cy b R own nm cc nL ret K mc ms pc lv (.int y :: .long x :: st) h n cells slots := by
  intro p e s m args below meth c Q H locs ls E hK hR hRp hS hb hl
  exact lv_lshl E.1 E.2.1 hd rfl (k p e s m args below meth c Q H locs ls E hK hR hRp hS hb hl)
theorem xt_i2l {x : Int32} (hd : decode cc pc = .ok (.i2l, 1)) (k : ax_T l G cy b R own nm cc nL ret K mc ms (pc + 1) lv (.long (x.toInt64) :: st) h n cells slots) : ax_T l G cy b R own nm cc nL ret K mc ms pc lv (.int x :: st) h n cells slots := by
  intro p e s m args below meth c Q H locs ls E hK hR hRp hS hb hl
  exact lv_i2l E.1 E.2.1 hd rfl (k p e s m args below meth c Q H locs ls E hK hR hRp hS hb hl)
theorem xt_l2i {x : Int64} (hd : decode cc pc = .ok (.l2i, 1)) (k : ax_T l G cy b R own nm cc nL ret K mc ms (pc + 1) lv (.int (x.toInt32) :: st) h n cells slots) : ax_T l G cy b R own nm cc nL ret K mc ms pc lv (.long x :: st) h n cells slots := by
  intro p e s m args below meth c Q H locs ls E hK hR hRp hS hb hl
  exact lv_l2i E.1 E.2.1 hd rfl (k p e s m args below meth c Q H locs ls E hK hR hRp hS hb hl)
theorem xt_i2b {x : Int32} (hd : decode cc pc = .ok (.i2b, 1)) (k : ax_T l G cy b R own nm cc nL ret K mc ms (pc + 1) lv (.int (x.toInt8.toInt32) :: st) h n cells slots) : ax_T l G cy b R own nm cc nL ret K mc ms pc lv (.int x :: st) h n cells slots := by
  intro p e s m args below meth c Q H locs ls E hK hR hRp hS hb hl
  exact lv_i2b E.1 E.2.1 hd rfl (k p e s m args below meth c Q H locs ls E hK hR hRp hS hb hl)
theorem xt_i2s {x : Int32} (hd : decode cc pc = .ok (.i2s, 1)) (k : ax_T l G cy b R own nm cc nL ret K mc ms (pc + 1) lv (.int (x.toInt16.toInt32) :: st) h n cells slots) : ax_T l G cy b R own nm cc nL ret K mc ms pc lv (.int x :: st) h n cells slots := by
  intro p e s m args below meth c Q H locs ls E hK hR hRp hS hb hl
  exact lv_i2s E.1 E.2.1 hd rfl (k p e s m args below meth c Q H locs ls E hK hR hRp hS hb hl)
theorem xt_i2c {x : Int32} (hd : decode cc pc = .ok (.i2c, 1)) (k : ax_T l G cy b R own nm cc nL ret K mc ms (pc + 1) lv (.int ((x.toUInt32 % 65536).toInt32) :: st) h n cells slots) : ax_T l G cy b R own nm cc nL ret K mc ms pc lv (.int x :: st) h n cells slots := by
  intro p e s m args below meth c Q H locs ls E hK hR hRp hS hb hl
  exact lv_i2c E.1 E.2.1 hd rfl (k p e s m args below meth c Q H locs ls E hK hR hRp hS hb hl)
theorem xt_lcmp {x y : Int64} (hd : decode cc pc = .ok (.lcmp, 1)) (k : ax_T l G cy b R own nm cc nL ret K mc ms (pc + 1) lv (.int (lg_cmp x y) :: st) h n cells slots) : ax_T l G cy b R own nm cc nL ret K mc ms pc lv (.long y :: .long x :: st) h n cells slots := by
  intro p e s m args below meth c Q H locs ls E hK hR hRp hS hb hl
  exact W.lcmp E.1 E.2.1 hd (k p e s m args below meth c Q H locs ls E hK hR hRp hS hb hl)
theorem xt_dup {v : Value} (hd : decode cc pc = .ok (.dup, 1)) (hc : v.category = 1) (k : ax_T l G cy b R own nm cc nL ret K mc ms (pc + 1) lv (v :: v :: st) h n cells slots) : ax_T l G cy b R own nm cc nL ret K mc ms pc lv (v :: st) h n cells slots := by
  intro p e s m args below meth c Q H locs ls E hK hR hRp hS hb hl
  exact lv_dup E.1 E.2.1 hd (by rw [ax_vcat']; exact hc) (k p e s m args below meth c Q H locs ls E hK hR hRp hS hb hl)
theorem xt_pop {v : Value} (hd : decode cc pc = .ok (.pop, 1)) (hc : v.category = 1) (k : ax_T l G cy b R own nm cc nL ret K mc ms (pc + 1) lv st h n cells slots) : ax_T l G cy b R own nm cc nL ret K mc ms pc lv (v :: st) h n cells slots := by
  intro p e s m args below meth c Q H locs ls E hK hR hRp hS hb hl
  exact lv_pop E.1 E.2.1 hd (by rw [ax_vcat']; exact hc) (k p e s m args below meth c Q H locs ls E hK hR hRp hS hb hl)
theorem xt_dup2 {v w : Value} (hd : decode cc pc = .ok (.dup2, 1)) (hc : v.category = 1) (hc2 : w.category = 1) (k : ax_T l G cy b R own nm cc nL ret K mc ms (pc + 1) lv (v :: w :: v :: w :: st) h n cells slots) : ax_T l G cy b R own nm cc nL ret K mc ms pc lv (v :: w :: st) h n cells slots := by
  intro p e s m args below meth c Q H locs ls E hK hR hRp hS hb hl
  exact lv_dup2_11 E.1 E.2.1 hd (by rw [ax_vcat']; exact hc) (by rw [ax_vcat']; exact hc2) (k p e s m args below meth c Q H locs ls E hK hR hRp hS hb hl)
theorem xt_iconst (v : Int32) {z : Int} (hd : decode cc pc = .ok (.iconst z, 1)) (hv : Int32.ofInt z = v) (k : ax_T l G cy b R own nm cc nL ret K mc ms (pc + 1) lv (.int v :: st) h n cells slots) : ax_T l G cy b R own nm cc nL ret K mc ms pc lv st h n cells slots := by
  intro p e s m args below meth c Q H locs ls E hK hR hRp hS hb hl
  exact lv_iconst E.1 E.2.1 hd hv (k p e s m args below meth c Q H locs ls E hK hR hRp hS hb hl)
theorem xt_bipush (v : Int32) {z : Int} (hd : decode cc pc = .ok (.bipush z, 2)) (hv : (Int8.ofInt z).toInt32 = v) (k : ax_T l G cy b R own nm cc nL ret K mc ms (pc + 2) lv (.int v :: st) h n cells slots) : ax_T l G cy b R own nm cc nL ret K mc ms pc lv st h n cells slots := by
  intro p e s m args below meth c Q H locs ls E hK hR hRp hS hb hl
  exact lv_bipush E.1 E.2.1 hd hv (k p e s m args below meth c Q H locs ls E hK hR hRp hS hb hl)
theorem xt_sipush (v : Int32) {z : Int} (hd : decode cc pc = .ok (.sipush z, 3)) (hv : (Int16.ofInt z).toInt32 = v) (k : ax_T l G cy b R own nm cc nL ret K mc ms (pc + 3) lv (.int v :: st) h n cells slots) : ax_T l G cy b R own nm cc nL ret K mc ms pc lv st h n cells slots := by
  intro p e s m args below meth c Q H locs ls E hK hR hRp hS hb hl
  exact lv_sipush E.1 E.2.1 hd hv (k p e s m args below meth c Q H locs ls E hK hR hRp hS hb hl)
theorem xt_lconst (v : Int64) {z : Fin 2} (hd : decode cc pc = .ok (.lconst z, 1)) (hv : Int64.ofNat (z : Nat) = v) (k : ax_T l G cy b R own nm cc nL ret K mc ms (pc + 1) lv (.long v :: st) h n cells slots) : ax_T l G cy b R own nm cc nL ret K mc ms pc lv st h n cells slots := by
  intro p e s m args below meth c Q H locs ls E hK hR hRp hS hb hl
  exact lv_lconst E.1 E.2.1 hd hv (k p e s m args below meth c Q H locs ls E hK hR hRp hS hb hl)
theorem xt_ldc {ix : Nat} (v : Int32) (hw : Cond.constant own ix v ∈ ax_Tb) (hd : decode cc pc = .ok (.ldc ix, 2)) (k : ax_T l G cy b R own nm cc nL ret K mc ms (pc + 2) lv (.int v :: st) h n cells slots) : ax_T l G cy b R own nm cc nL ret K mc ms pc lv st h n cells slots := by
  intro p e s m args below meth c Q H locs ls E hK hR hRp hS hb hl
  exact lv_ldc E.1 E.2.1 E.2.2.2.1 (E.2.2.2.2.1 _ hw) hd (k p e s m args below meth c Q H locs ls E hK hR hRp hS hb hl)
theorem xt_ldc_w {ix : Nat} (v : Int32) (hw : Cond.constant own ix v ∈ ax_Tb) (hd : decode cc pc = .ok (.ldc_w ix, 3)) (k : ax_T l G cy b R own nm cc nL ret K mc ms (pc + 3) lv (.int v :: st) h n cells slots) : ax_T l G cy b R own nm cc nL ret K mc ms pc lv st h n cells slots := by
  intro p e s m args below meth c Q H locs ls E hK hR hRp hS hb hl
  exact lv_ldcw E.1 E.2.1 E.2.2.2.1 (E.2.2.2.2.1 _ hw) hd (k p e s m args below meth c Q H locs ls E hK hR hRp hS hb hl)
theorem xt_ldc2_w {ix : Nat} (v : Int64) (hw : Cond.constantLong own ix v ∈ ax_Tb) (hd : decode cc pc = .ok (.ldc2_w ix, 3)) (k : ax_T l G cy b R own nm cc nL ret K mc ms (pc + 3) lv (.long v :: st) h n cells slots) : ax_T l G cy b R own nm cc nL ret K mc ms pc lv st h n cells slots := by
  intro p e s m args below meth c Q H locs ls E hK hR hRp hS hb hl
  exact lv_ldc2 E.1 E.2.1 E.2.2.2.1 (E.2.2.2.2.1 _ hw) hd (k p e s m args below meth c Q H locs ls E hK hR hRp hS hb hl)
theorem xt_iload_n {k : Fin 4} {i : Nat} {x : Int32} (hd : decode cc pc = .ok (.iload_n k, 1)) (hi : (k : Nat) = i) (hx : lv[i]? = some (some (.int x))) (kk : ax_T l G cy b R own nm cc nL ret K mc ms (pc + 1) lv (.int x :: st) h n cells slots) : ax_T l G cy b R own nm cc nL ret K mc ms pc lv st h n cells slots := by
  intro p e s m args below meth c Q H locs ls E hK hR hRp hS hb hl
  exact lv_iload_n E.1 E.2.1 hd hi (hl.2.2 i _ hx) (kk p e s m args below meth c Q H locs ls E hK hR hRp hS hb hl)
theorem xt_iload {i : Nat} {x : Int32} (hd : decode cc pc = .ok (.iload i, 2)) (hx : lv[i]? = some (some (.int x))) (kk : ax_T l G cy b R own nm cc nL ret K mc ms (pc + 2) lv (.int x :: st) h n cells slots) : ax_T l G cy b R own nm cc nL ret K mc ms pc lv st h n cells slots := by
  intro p e s m args below meth c Q H locs ls E hK hR hRp hS hb hl
  exact lv_iload E.1 E.2.1 hd (hl.2.2 i _ hx) (kk p e s m args below meth c Q H locs ls E hK hR hRp hS hb hl)
theorem xt_lload_n {k : Fin 4} {i : Nat} {x : Int64} (hd : decode cc pc = .ok (.lload_n k, 1)) (hi : (k : Nat) = i) (hx : lv[i]? = some (some (.long x))) (kk : ax_T l G cy b R own nm cc nL ret K mc ms (pc + 1) lv (.long x :: st) h n cells slots) : ax_T l G cy b R own nm cc nL ret K mc ms pc lv st h n cells slots := by
  intro p e s m args below meth c Q H locs ls E hK hR hRp hS hb hl
  exact lv_lload_n E.1 E.2.1 hd hi (hl.2.2 i _ hx) (kk p e s m args below meth c Q H locs ls E hK hR hRp hS hb hl)
theorem xt_lload {i : Nat} {x : Int64} (hd : decode cc pc = .ok (.lload i, 2)) (hx : lv[i]? = some (some (.long x))) (kk : ax_T l G cy b R own nm cc nL ret K mc ms (pc + 2) lv (.long x :: st) h n cells slots) : ax_T l G cy b R own nm cc nL ret K mc ms pc lv st h n cells slots := by
  intro p e s m args below meth c Q H locs ls E hK hR hRp hS hb hl
  exact lv_lload E.1 E.2.1 hd (hl.2.2 i _ hx) (kk p e s m args below meth c Q H locs ls E hK hR hRp hS hb hl)
theorem xt_aload_n {k : Fin 4} {i : Nat} {x : Nat} (hd : decode cc pc = .ok (.aload_n k, 1)) (hi : (k : Nat) = i) (hx : lv[i]? = some (some (.ref x))) (kk : ax_T l G cy b R own nm cc nL ret K mc ms (pc + 1) lv (.ref x :: st) h n cells slots) : ax_T l G cy b R own nm cc nL ret K mc ms pc lv st h n cells slots := by
  intro p e s m args below meth c Q H locs ls E hK hR hRp hS hb hl
  exact lv_aload_n E.1 E.2.1 hd hi (hl.2.2 i _ hx) (kk p e s m args below meth c Q H locs ls E hK hR hRp hS hb hl)
theorem xt_aload {i : Nat} {x : Nat} (hd : decode cc pc = .ok (.aload i, 2)) (hx : lv[i]? = some (some (.ref x))) (kk : ax_T l G cy b R own nm cc nL ret K mc ms (pc + 2) lv (.ref x :: st) h n cells slots) : ax_T l G cy b R own nm cc nL ret K mc ms pc lv st h n cells slots := by
  intro p e s m args below meth c Q H locs ls E hK hR hRp hS hb hl
  exact lv_aload E.1 E.2.1 hd (hl.2.2 i _ hx) (kk p e s m args below meth c Q H locs ls E hK hR hRp hS hb hl)
theorem xt_aload_nR {k : Fin 4} {i : Nat} {x : Nat} (hd : decode cc pc = .ok (.aload_n k, 1)) (hi : (k : Nat) = i) (hx : lv[i]? = some (some (.retAddr x))) (kk : ax_T l G cy b R own nm cc nL ret K mc ms (pc + 1) lv (.retAddr x :: st) h n cells slots) : ax_T l G cy b R own nm cc nL ret K mc ms pc lv st h n cells slots := by
  intro p e s m args below meth c Q H locs ls E hK hR hRp hS hb hl
  exact lv_aload_n E.1 E.2.1 hd hi (hl.2.2 i _ hx) (kk p e s m args below meth c Q H locs ls E hK hR hRp hS hb hl)
theorem xt_istore_n {k : Fin 4} {i : Nat} {x : Int32} (hd : decode cc pc = .ok (.istore_n k, 1)) (hi : (k : Nat) = i) (hn : i < nL) (ho : ax_okst lv i = true) (kk : ax_T l G cy b R own nm cc nL ret K mc ms (pc + 1) (lv.set i (some (.int x))) st h n cells slots) : ax_T l G cy b R own nm cc nL ret K mc ms pc lv (.int x :: st) h n cells slots := by
  intro p e s m args below meth c Q H locs ls E hK hR hRp hS hb hl
  exact lv_istore_n E.1 E.2.1 hd hi hl.has hn rfl (fun ls' hl' => kk p e s m args below meth c Q H locs ls' E hK hR hRp hS hb  (ax_st1 (v := .int x) ho hl'))
theorem xt_istore {i : Nat} {x : Int32} (hd : decode cc pc = .ok (.istore i, 2)) (hn : i < nL) (ho : ax_okst lv i = true) (kk : ax_T l G cy b R own nm cc nL ret K mc ms (pc + 2) (lv.set i (some (.int x))) st h n cells slots) : ax_T l G cy b R own nm cc nL ret K mc ms pc lv (.int x :: st) h n cells slots := by
  intro p e s m args below meth c Q H locs ls E hK hR hRp hS hb hl
  exact lv_istore E.1 E.2.1 hd hl.has hn rfl (fun ls' hl' => kk p e s m args below meth c Q H locs ls' E hK hR hRp hS hb  (ax_st1 (v := .int x) ho hl'))
theorem xt_astore_n {k : Fin 4} {i : Nat} {x : Nat} (hd : decode cc pc = .ok (.astore_n k, 1)) (hi : (k : Nat) = i) (hn : i < nL) (ho : ax_okst lv i = true) (kk : ax_T l G cy b R own nm cc nL ret K mc ms (pc + 1) (lv.set i (some (.ref x))) st h n cells slots) : ax_T l G cy b R own nm cc nL ret K mc ms pc lv (.ref x :: st) h n cells slots := by
  intro p e s m args below meth c Q H locs ls E hK hR hRp hS hb hl
  exact lv_astore_n E.1 E.2.1 hd hi hl.has hn rfl (fun ls' hl' => kk p e s m args below meth c Q H locs ls' E hK hR hRp hS hb  (ax_st1 (v := .ref x) ho hl'))
theorem xt_astore {i : Nat} {x : Nat} (hd : decode cc pc = .ok (.astore i, 2)) (hn : i < nL) (ho : ax_okst lv i = true) (kk : ax_T l G cy b R own nm cc nL ret K mc ms (pc + 2) (lv.set i (some (.ref x))) st h n cells slots) : ax_T l G cy b R own nm cc nL ret K mc ms pc lv (.ref x :: st) h n cells slots := by
  intro p e s m args below meth c Q H locs ls E hK hR hRp hS hb hl
  exact lv_astore E.1 E.2.1 hd hl.has hn rfl (fun ls' hl' => kk p e s m args below meth c Q H locs ls' E hK hR hRp hS hb  (ax_st1 (v := .ref x) ho hl'))
theorem xt_lstore_n {k : Fin 4} {i : Nat} {x : Int64} (hd : decode cc pc = .ok (.lstore_n k, 1)) (hi : (k : Nat) = i) (hn : i + 1 < nL) (ho : ax_okst lv i = true) (kk : ax_T l G cy b R own nm cc nL ret K mc ms (pc + 1) ((lv.set i (some (.long x))).set (i + 1) none) st h n cells slots) : ax_T l G cy b R own nm cc nL ret K mc ms pc lv (.long x :: st) h n cells slots := by
  intro p e s m args below meth c Q H locs ls E hK hR hRp hS hb hl
  exact lv_lstore_n E.1 E.2.1 hd hi hl.has hn rfl (fun ls' hl' => kk p e s m args below meth c Q H locs ls' E hK hR hRp hS hb  (ax_st2 (v := .long x) ho hl'))
theorem xt_lstore {i : Nat} {x : Int64} (hd : decode cc pc = .ok (.lstore i, 2)) (hn : i + 1 < nL) (ho : ax_okst lv i = true) (kk : ax_T l G cy b R own nm cc nL ret K mc ms (pc + 2) ((lv.set i (some (.long x))).set (i + 1) none) st h n cells slots) : ax_T l G cy b R own nm cc nL ret K mc ms pc lv (.long x :: st) h n cells slots := by
  intro p e s m args below meth c Q H locs ls E hK hR hRp hS hb hl
  exact lv_lstore E.1 E.2.1 hd hl.has hn rfl (fun ls' hl' => kk p e s m args below meth c Q H locs ls' E hK hR hRp hS hb  (ax_st2 (v := .long x) ho hl'))
theorem ax_ix {b : Nat} {lv : List (Option Value)} {i : Nat} {v : Value} (h : lv[i]? = some (some v)) : ∃ k : Nat, (ax_asc b lv)[k]? = some (i, ax_v b v) := by
  obtain ⟨k, hk, h2⟩ := List.getElem_of_mem (ax_asc_mem.mpr ⟨v, h, rfl⟩ : (i, ax_v b v) ∈ ax_asc b lv)
  exact ⟨k, by rw [List.getElem?_eq_getElem hk, h2]⟩
theorem xt_iinc {i : Nat} {x : Int32} {z : Int} (v : Int32) (hd : decode cc pc = .ok (.iinc i z, 3)) (hx : lv[i]? = some (some (.int x))) (hv : x + Int32.ofInt z = v) (hn : i < nL) (ho : ax_okst lv i = true) (kk : ax_T l G cy b R own nm cc nL ret K mc ms (pc + 3) (lv.set i (some (.int v))) st h n cells slots) : ax_T l G cy b R own nm cc nL ret K mc ms pc lv st h n cells slots := by
  intro p e s m args below meth c Q H locs ls E hK hR hRp hS hb hl
  obtain ⟨j, hj⟩ := ax_ix (b := b) hx
  exact lv_iinc (v := v) E.1 E.2.1 hd hl.has hj hv hn rfl (fun ls' hl' => kk p e s m args below meth c Q H locs ls' E hK hR hRp hS hb  (ax_st1 (v := .int v) ho hl'))
theorem xt_if_eq {x : Int32} {off : Int} (tgt : Nat) (hd : decode cc pc = .ok (.ifCond .eq off, 3)) (ht : (pc : Int) + off = (tgt : Int)) (kt : x = 0 → ax_T l G cy b R own nm cc nL ret K mc ms tgt lv st h n cells slots) (kf : ¬ x = 0 → ax_T l G cy b R own nm cc nL ret K mc ms (pc + 3) lv st h n cells slots) : ax_T l G cy b R own nm cc nL ret K mc ms pc lv (.int x :: st) h n cells slots := by
  intro p e s m args below meth c Q H locs ls E hK hR hRp hS hb hl
  exact lv_if_eq E.1 E.2.1 hd ht (fun q => kt q p e s m args below meth c Q H locs ls E hK hR hRp hS hb hl) (fun q => kf q p e s m args below meth c Q H locs ls E hK hR hRp hS hb hl)
theorem xt_icmp_eq {x y : Int32} {off : Int} (tgt : Nat) (hd : decode cc pc = .ok (.if_icmp .eq off, 3)) (ht : (pc : Int) + off = (tgt : Int)) (kt : x = y → ax_T l G cy b R own nm cc nL ret K mc ms tgt lv st h n cells slots) (kf : ¬ x = y → ax_T l G cy b R own nm cc nL ret K mc ms (pc + 3) lv st h n cells slots) : ax_T l G cy b R own nm cc nL ret K mc ms pc lv (.int y :: .int x :: st) h n cells slots := by
  intro p e s m args below meth c Q H locs ls E hK hR hRp hS hb hl
  exact lv_icmp_eq E.1 E.2.1 hd ht (fun q => kt q p e s m args below meth c Q H locs ls E hK hR hRp hS hb hl) (fun q => kf q p e s m args below meth c Q H locs ls E hK hR hRp hS hb hl)
theorem xt_if_ne {x : Int32} {off : Int} (tgt : Nat) (hd : decode cc pc = .ok (.ifCond .ne off, 3)) (ht : (pc : Int) + off = (tgt : Int)) (kt : ¬ x = 0 → ax_T l G cy b R own nm cc nL ret K mc ms tgt lv st h n cells slots) (kf : x = 0 → ax_T l G cy b R own nm cc nL ret K mc ms (pc + 3) lv st h n cells slots) : ax_T l G cy b R own nm cc nL ret K mc ms pc lv (.int x :: st) h n cells slots := by
  intro p e s m args below meth c Q H locs ls E hK hR hRp hS hb hl
  exact lv_if_ne E.1 E.2.1 hd ht (fun q => kt q p e s m args below meth c Q H locs ls E hK hR hRp hS hb hl) (fun q => kf q p e s m args below meth c Q H locs ls E hK hR hRp hS hb hl)
theorem xt_icmp_ne {x y : Int32} {off : Int} (tgt : Nat) (hd : decode cc pc = .ok (.if_icmp .ne off, 3)) (ht : (pc : Int) + off = (tgt : Int)) (kt : ¬ x = y → ax_T l G cy b R own nm cc nL ret K mc ms tgt lv st h n cells slots) (kf : x = y → ax_T l G cy b R own nm cc nL ret K mc ms (pc + 3) lv st h n cells slots) : ax_T l G cy b R own nm cc nL ret K mc ms pc lv (.int y :: .int x :: st) h n cells slots := by
  intro p e s m args below meth c Q H locs ls E hK hR hRp hS hb hl
  exact lv_icmp_ne E.1 E.2.1 hd ht (fun q => kt q p e s m args below meth c Q H locs ls E hK hR hRp hS hb hl) (fun q => kf q p e s m args below meth c Q H locs ls E hK hR hRp hS hb hl)
theorem xt_if_lt {x : Int32} {off : Int} (tgt : Nat) (hd : decode cc pc = .ok (.ifCond .lt off, 3)) (ht : (pc : Int) + off = (tgt : Int)) (kt : x < 0 → ax_T l G cy b R own nm cc nL ret K mc ms tgt lv st h n cells slots) (kf : ¬ x < 0 → ax_T l G cy b R own nm cc nL ret K mc ms (pc + 3) lv st h n cells slots) : ax_T l G cy b R own nm cc nL ret K mc ms pc lv (.int x :: st) h n cells slots := by
  intro p e s m args below meth c Q H locs ls E hK hR hRp hS hb hl
  exact lv_if_lt E.1 E.2.1 hd ht (fun q => kt q p e s m args below meth c Q H locs ls E hK hR hRp hS hb hl) (fun q => kf q p e s m args below meth c Q H locs ls E hK hR hRp hS hb hl)
theorem xt_icmp_lt {x y : Int32} {off : Int} (tgt : Nat) (hd : decode cc pc = .ok (.if_icmp .lt off, 3)) (ht : (pc : Int) + off = (tgt : Int)) (kt : x < y → ax_T l G cy b R own nm cc nL ret K mc ms tgt lv st h n cells slots) (kf : ¬ x < y → ax_T l G cy b R own nm cc nL ret K mc ms (pc + 3) lv st h n cells slots) : ax_T l G cy b R own nm cc nL ret K mc ms pc lv (.int y :: .int x :: st) h n cells slots := by
  intro p e s m args below meth c Q H locs ls E hK hR hRp hS hb hl
  exact lv_icmp_lt E.1 E.2.1 hd ht (fun q => kt q p e s m args below meth c Q H locs ls E hK hR hRp hS hb hl) (fun q => kf q p e s m args below meth c Q H locs ls E hK hR hRp hS hb hl)
theorem xt_if_ge {x : Int32} {off : Int} (tgt : Nat) (hd : decode cc pc = .ok (.ifCond .ge off, 3)) (ht : (pc : Int) + off = (tgt : Int)) (kt : 0 ≤ x → ax_T l G cy b R own nm cc nL ret K mc ms tgt lv st h n cells slots) (kf : ¬ 0 ≤ x → ax_T l G cy b R own nm cc nL ret K mc ms (pc + 3) lv st h n cells slots) : ax_T l G cy b R own nm cc nL ret K mc ms pc lv (.int x :: st) h n cells slots := by
  intro p e s m args below meth c Q H locs ls E hK hR hRp hS hb hl
  exact lv_if_ge E.1 E.2.1 hd ht (fun q => kt q p e s m args below meth c Q H locs ls E hK hR hRp hS hb hl) (fun q => kf q p e s m args below meth c Q H locs ls E hK hR hRp hS hb hl)
theorem xt_icmp_ge {x y : Int32} {off : Int} (tgt : Nat) (hd : decode cc pc = .ok (.if_icmp .ge off, 3)) (ht : (pc : Int) + off = (tgt : Int)) (kt : y ≤ x → ax_T l G cy b R own nm cc nL ret K mc ms tgt lv st h n cells slots) (kf : ¬ y ≤ x → ax_T l G cy b R own nm cc nL ret K mc ms (pc + 3) lv st h n cells slots) : ax_T l G cy b R own nm cc nL ret K mc ms pc lv (.int y :: .int x :: st) h n cells slots := by
  intro p e s m args below meth c Q H locs ls E hK hR hRp hS hb hl
  exact lv_icmp_ge E.1 E.2.1 hd ht (fun q => kt q p e s m args below meth c Q H locs ls E hK hR hRp hS hb hl) (fun q => kf q p e s m args below meth c Q H locs ls E hK hR hRp hS hb hl)
theorem xt_if_gt {x : Int32} {off : Int} (tgt : Nat) (hd : decode cc pc = .ok (.ifCond .gt off, 3)) (ht : (pc : Int) + off = (tgt : Int)) (kt : 0 < x → ax_T l G cy b R own nm cc nL ret K mc ms tgt lv st h n cells slots) (kf : ¬ 0 < x → ax_T l G cy b R own nm cc nL ret K mc ms (pc + 3) lv st h n cells slots) : ax_T l G cy b R own nm cc nL ret K mc ms pc lv (.int x :: st) h n cells slots := by
  intro p e s m args below meth c Q H locs ls E hK hR hRp hS hb hl
  exact lv_if_gt E.1 E.2.1 hd ht (fun q => kt q p e s m args below meth c Q H locs ls E hK hR hRp hS hb hl) (fun q => kf q p e s m args below meth c Q H locs ls E hK hR hRp hS hb hl)
theorem xt_icmp_gt {x y : Int32} {off : Int} (tgt : Nat) (hd : decode cc pc = .ok (.if_icmp .gt off, 3)) (ht : (pc : Int) + off = (tgt : Int)) (kt : y < x → ax_T l G cy b R own nm cc nL ret K mc ms tgt lv st h n cells slots) (kf : ¬ y < x → ax_T l G cy b R own nm cc nL ret K mc ms (pc + 3) lv st h n cells slots) : ax_T l G cy b R own nm cc nL ret K mc ms pc lv (.int y :: .int x :: st) h n cells slots := by
  intro p e s m args below meth c Q H locs ls E hK hR hRp hS hb hl
  exact lv_icmp_gt E.1 E.2.1 hd ht (fun q => kt q p e s m args below meth c Q H locs ls E hK hR hRp hS hb hl) (fun q => kf q p e s m args below meth c Q H locs ls E hK hR hRp hS hb hl)
theorem xt_if_le {x : Int32} {off : Int} (tgt : Nat) (hd : decode cc pc = .ok (.ifCond .le off, 3)) (ht : (pc : Int) + off = (tgt : Int)) (kt : x ≤ 0 → ax_T l G cy b R own nm cc nL ret K mc ms tgt lv st h n cells slots) (kf : ¬ x ≤ 0 → ax_T l G cy b R own nm cc nL ret K mc ms (pc + 3) lv st h n cells slots) : ax_T l G cy b R own nm cc nL ret K mc ms pc lv (.int x :: st) h n cells slots := by
  intro p e s m args below meth c Q H locs ls E hK hR hRp hS hb hl
  exact lv_if_le E.1 E.2.1 hd ht (fun q => kt q p e s m args below meth c Q H locs ls E hK hR hRp hS hb hl) (fun q => kf q p e s m args below meth c Q H locs ls E hK hR hRp hS hb hl)
theorem xt_icmp_le {x y : Int32} {off : Int} (tgt : Nat) (hd : decode cc pc = .ok (.if_icmp .le off, 3)) (ht : (pc : Int) + off = (tgt : Int)) (kt : x ≤ y → ax_T l G cy b R own nm cc nL ret K mc ms tgt lv st h n cells slots) (kf : ¬ x ≤ y → ax_T l G cy b R own nm cc nL ret K mc ms (pc + 3) lv st h n cells slots) : ax_T l G cy b R own nm cc nL ret K mc ms pc lv (.int y :: .int x :: st) h n cells slots := by
  intro p e s m args below meth c Q H locs ls E hK hR hRp hS hb hl
  exact lv_icmp_le E.1 E.2.1 hd ht (fun q => kt q p e s m args below meth c Q H locs ls E hK hR hRp hS hb hl) (fun q => kf q p e s m args below meth c Q H locs ls E hK hR hRp hS hb hl)
theorem xt_goto {off : Int} (tgt : Nat) (hd : decode cc pc = .ok (.goto off, 3)) (ht : (pc : Int) + off = (tgt : Int)) (k : ax_T l G cy b R own nm cc nL ret K mc ms tgt lv st h n cells slots) : ax_T l G cy b R own nm cc nL ret K mc ms pc lv st h n cells slots := by
  intro p e s m args below meth c Q H locs ls E hK hR hRp hS hb hl
  exact lv_goto E.1 E.2.1 hd ht (k p e s m args below meth c Q H locs ls E hK hR hRp hS hb hl)
theorem xt_tableOut {dflt lo hi : Int} {offs : Array Int} {len : Nat} {x : Int32} (tgt : Nat) (hd : decode cc pc = .ok (.tableswitch dflt lo hi offs, len)) (hx : x.toInt < lo ∨ hi < x.toInt) (ht : (pc : Int) + dflt = (tgt : Int)) (k : ax_T l G cy b R own nm cc nL ret K mc ms tgt lv st h n cells slots) : ax_T l G cy b R own nm cc nL ret K mc ms pc lv (.int x :: st) h n cells slots := by
  intro p e s m args below meth c Q H locs ls E hK hR hRp hS hb hl
  exact lv_tableOut E.1 E.2.1 hd hx ht (k p e s m args below meth c Q H locs ls E hK hR hRp hS hb hl)
theorem xt_tableIn {dflt lo hi : Int} {offs : Array Int} {len : Nat} {x : Int32} {off : Int} (tgt : Nat) (hd : decode cc pc = .ok (.tableswitch dflt lo hi offs, len)) (h1 : ¬ x.toInt < lo) (h2 : ¬ hi < x.toInt) (ho : offs[(x.toInt - lo).toNat]? = some off) (ht : (pc : Int) + off = (tgt : Int)) (k : ax_T l G cy b R own nm cc nL ret K mc ms tgt lv st h n cells slots) : ax_T l G cy b R own nm cc nL ret K mc ms pc lv (.int x :: st) h n cells slots := by
  intro p e s m args below meth c Q H locs ls E hK hR hRp hS hb hl
  exact lv_tableIn E.1 E.2.1 hd h1 h2 ho ht (k p e s m args below meth c Q H locs ls E hK hR hRp hS hb hl)
theorem xt_ret (hd : decode cc pc = .ok (.return_, 1)) (hr : ret = none) (hc : cells ≤ mc) (hs : slots ≤ ms) (k : K none h n) : ax_T l G cy b R own nm cc nL ret K mc ms pc lv [] h n cells slots := by
  intro p e s m args below meth c Q H locs ls E hK hR hRp hS hb hl
  exact W.widen hc hs (hR none h n H locs pc ls k hd hr hRp hS)
theorem xt_iret {v : Int32} (hd : decode cc pc = .ok (.ireturn, 1)) (hr : ret = some .int) (hc : cells ≤ mc) (hs : slots ≤ ms) (k : K (some (.int v)) h n) : ax_T l G cy b R own nm cc nL ret K mc ms pc lv [.int v] h n cells slots := by
  intro p e s m args below meth c Q H locs ls E hK hR hRp hS hb hl
  exact W.widen hc hs (hR (some (.int v)) h n H locs pc ls k hd ⟨.int, hr, rfl⟩ hRp hS)
theorem xt_zret {v : Int32} (hd : decode cc pc = .ok (.ireturn, 1)) (hr : ret = some .boolean) (hv : v = 0 ∨ v = 1) (hc : cells ≤ mc) (hs : slots ≤ ms) (k : K (some (.int v)) h n) : ax_T l G cy b R own nm cc nL ret K mc ms pc lv [.int v] h n cells slots := by
  intro p e s m args below meth c Q H locs ls E hK hR hRp hS hb hl
  exact W.widen hc hs (hR (some (.int v)) h n H locs pc ls k hd ⟨.boolean, hr, by rcases hv with rfl | rfl <;> rfl⟩ hRp hS)
theorem xt_lret {v : Int64} (hd : decode cc pc = .ok (.lreturn, 1)) (hr : ret = some .long) (hc : cells ≤ mc) (hs : slots ≤ ms) (k : K (some (.long v)) h n) : ax_T l G cy b R own nm cc nL ret K mc ms pc lv [.long v] h n cells slots := by
  intro p e s m args below meth c Q H locs ls E hK hR hRp hS hb hl
  exact W.widen hc hs (hR (some (.long v)) h n H locs pc ls k hd hr hRp hS)
theorem xt_wid {c2 s2 : Nat} (hc : cells ≤ c2) (hs : slots ≤ s2) (k : ax_T l G cy b R own nm cc nL ret K mc ms pc lv st h n c2 s2) : ax_T l G cy b R own nm cc nL ret K mc ms pc lv st h n cells slots := by
  intro p e s m args below meth c Q H locs ls E hK hR hRp hS hb hl
  exact W.widen hc hs (k p e s m args below meth c Q H locs ls E hK hR hRp hS hb hl)
theorem xt_eq {h2 : ax_H} (e : h = h2) (k : ax_T l G cy b R own nm cc nL ret K mc ms pc lv st h2 n cells slots) : ax_T l G cy b R own nm cc nL ret K mc ms pc lv st h n cells slots := by
  subst e; exact k
theorem xt_top {v w : Value} (e : v = w) (k : ax_T l G cy b R own nm cc nL ret K mc ms pc lv (w :: st) h n cells slots) : ax_T l G cy b R own nm cc nL ret K mc ms pc lv (v :: st) h n cells slots := by
  subst e; exact k
theorem xt_top2 {v w v2 w2 : Value} (e : v = w) (e2 : v2 = w2) (k : ax_T l G cy b R own nm cc nL ret K mc ms pc lv (w :: w2 :: st) h n cells slots) : ax_T l G cy b R own nm cc nL ret K mc ms pc lv (v :: v2 :: st) h n cells slots := by
  subst e; subst e2; exact k
/-- a field of an object of class ci is read -/
theorem xt_getG {i ci k index N : Nat} {C : String} {TT : u_T} {fs : List Value} {v : Value} (hi : h i = some (.inr (ci, fs))) (hc : vwCl[ci]? = some (C, TT, N)) (hk : k < N) (hin : ∀ w ∈ u_ws C TT N, w ∈ ax_Tb)
    (hlink : Cond.fieldLink own index (TT k).1 (TT k).2.1 (TT k).2.2.1 ∈ ax_Tb ∨ ∃ host, Cond.fieldLinkNest own index (TT k).1 (TT k).2.1 (TT k).2.2.1 host ∈ ax_Nw) (hv : fs[k]? = some v) (hd : decode cc pc = .ok (.getfield index, 3))
    (kk : ax_T l G cy b R own nm cc nL ret K mc ms (pc + 3) lv (v :: st) h n cells slots) : ax_T l G cy b R own nm cc nL ret K mc ms pc lv (.ref i :: st) h n cells slots := by
  intro p e s m args below meth c Q H locs ls E hK hR hRp hS hb hl
  have hP : va_P G vwCl [(b + i, ax_e cy b (.inr (ci, fs)))] H := fun j q hq => by
    have hj : j < 1 := (List.getElem?_eq_some_iff.mp hq).1
    rw [show j = 0 by omega] at hq
    cases hq
    exact hRp.2 i _ hi
  have hv' : (fs.map (ax_v b))[k]? = some (ax_v b v) := by rw [List.getElem?_map, hv]; rfl
  rcases hlink with hlink | ⟨host, hlink⟩
  · exact va_get E.1 E.2.1 E.2.2.2.2.1 hin E.2.2.2.1 hK.1 hP 0 rfl hc k hk (E.2.2.2.2.1 _ hlink) (fun _ h9 => h9) hv' hd (kk p e s m args below meth c Q H locs ls E hK hR hRp hS hb hl)
  · exact va_getN E.1 E.2.1 E.2.2.2.2.1 hin E.2.2.2.1 hK.1 hP 0 rfl hc k hk (va_Nw.use rfl (hK.2.1 _ hlink)) (fun _ h9 => h9) hv' hd (kk p e s m args below meth c Q H locs ls E hK hR hRp hS hb hl)
theorem ax_S_put {A : Nat → Prop} {H0 H H1 : Heap} {locs : List Loc} {a k : Nat} (h : va_S A H0 H locs) (z : H1.size = H.size) (oq : ∀ q : Nat, q ≠ a → H1[q]? = H[q]?) (ha : A a) : va_S A H0 H1 (locs ++ [⟨a, k⟩]) := va_S.put h z oq ha
/-- a field is written (a field that isn't final, or a constructor's own) -/
theorem xt_putG {i ci k index N : Nat} {C : String} {TT : u_T} {ty0 : Nat → FieldType} {fs : List Value} {v : Value} {ty : FieldType} (hi : h i = some (.inr (ci, fs))) (hc : vwCl[ci]? = some (C, TT, N)) (hk : k < N) (hin : ∀ w ∈ u_ws C TT N, w ∈ ax_Tb)
    (hty : ∀ k, k < N → parseFieldDescriptor (TT k).2.2.1 = some (ty0 k)) (hnm : ∀ a, a < N → ∀ b, b < N → a ≠ b → (TT a).2.1 ≠ (TT b).2.1)
    (hlink : Cond.fieldLink own index (TT k).1 (TT k).2.1 (TT k).2.2.1 ∈ ax_Tb ∨ ∃ host, Cond.fieldLinkNest own index (TT k).1 (TT k).2.1 (TT k).2.2.1 host ∈ ax_Nw)
    (hfin : (TT k).2.2.2 = false ∨ ((TT k).2.2.2 = true ∧ nm = "<init>" ∧ (TT k).1 = own ∧ Cond.fieldLink own index (TT k).1 (TT k).2.1 (TT k).2.2.1 ∈ ax_Tb)) (hty1 : parseFieldDescriptor (TT k).2.2.1 = some ty) (hn : ∀ b, narrow ty (ax_v b v) = ax_v b v) (hfit : ∀ b, fits ty (ax_v b v) = true) (hl2 : k < fs.length) (hd : decode cc pc = .ok (.putfield index, 3))
    (kk : ax_T l G cy b R own nm cc nL ret K mc ms (pc + 3) lv st (hp h i (.inr (ci, fs.set k v))) n cells slots) : ax_T l G cy b R own nm cc nL ret K mc ms pc lv (v :: .ref i :: st) h n cells slots := by
  intro p e s m args below meth c Q H locs ls E hK hR hRp hS hb hl
  have hts := E.2.2.2.2.1
  have hap := va_apart (own := own) hts hin ty0 hty hnm hK.1 hc
  obtain ⟨r, h1, cell, q1, q2, q3, q4⟩ := hRp.2 i _ hi
  have hr : r = (C, TT, N) := Option.some.inj (h1.symm.trans hc)
  subst hr
  obtain ⟨hSl, hfc, kC, hkC, hkind⟩ := hK.1.1 ci _ hc
  obtain ⟨cf, kf, fi, f, hfi, hsl⟩ := hSl k hk
  have hlay := hts _ (hin _ (u_in_lay hk))
  unfold u_lay at hlay
  have hst := (u_facts hfc hkC (u_lays hts hin hk) hfi).1
  have hA : b ≤ b + i := by omega
  have fin : ∀ (H' : Heap) (e1 : H'[b + i]? = some (cell.setSlot ((G.2 ci) k) (ax_v b v))) (e2 : H'.size = H.size) (e3 : ∀ q, q ≠ b + i → H'[q]? = H[q]?), ax_Rep G cy b n (hp h i (.inr (ci, fs.set k v))) H' := fun H' e1 e2 e3 =>
    hRp.set e2 ⟨_, hc, t_OB.to (V := updV (vp_V (fs.map (ax_v b))) k (ax_v b v)) ⟨_, e1, q2, q3, t_set q4 hap hk _⟩ (fun j _ => by rw [vp_updV_set (by rw [List.length_map]; exact hl2), ← List.map_set])⟩ e3
  rcases hfin with hfin | ⟨hfin, hin2, hdecl, hlk2⟩
  · rw [if_neg (by rw [hfin]; decide)] at hlay
    have h6 := u_store hfc hkC hkind hlay hfi hty1 (hn b) (hfit b)
    rcases hlink with hlink | ⟨host, hlink⟩
    · refine W.putK E.1 E.2.1 (f := f) ⟨E.2.2.2.1, hts _ hlink, ⟨_, _, _, hfi⟩, hst⟩ (by rw [q2]; exact h6) q1 q3 (by rw [hsl]; exact k2_hasslot (q4 k hk)) rfl rfl hd fun H' e1 e2 e3 => ?_
      rw [hsl] at e1 ⊢
      exact kk p e s m args below meth c Q H' _ ls E hK hR (fin H' e1 e2 e3) (hS.put e2 e3 hA) hb hl
    · refine va_WputK E.1 E.2.1 (f := f) E.2.2.2.1 (va_Nw.use rfl (hK.2.1 _ hlink)) hfi hst (by rw [q2]; exact h6) q1 q3 (by rw [hsl]; exact k2_hasslot (q4 k hk)) rfl rfl hd fun H' e1 e2 e3 => ?_
      rw [hsl] at e1 ⊢
      exact kk p e s m args below meth c Q H' _ ls E hK hR (fin H' e1 e2 e3) (hS.put e2 e3 hA) hb hl
  · rw [if_pos hfin] at hlay
    have hcf : m.cls = cf := by
      obtain ⟨_, _, c', _, _, _, -, -, hf', -, -, -, hown2, -⟩ := Cond.laysFinal_spec hlay
      have e1 : c' = cf := by have := hfi.symm.trans hf'; simp at this; exact this.1.symm
      rw [hdecl] at hown2
      rw [← e1]; exact Option.some.inj (E.2.2.2.1.symm.trans hown2)
    have h6 := u_fits hfc hkC hkind (Or.inr hlay) hfi hty1 (hn b) (hfit b)
    refine W.putFinK E.1 E.2.1 E.2.2.2.1 (hts _ hlk2) hfi hst hcf (E.2.2.2.2.2.2.2.trans hin2) (by rw [q2]; exact h6) q1 q3 (by rw [hsl]; exact k2_hasslot (q4 k hk)) rfl rfl hd fun H' e1 e2 e3 => ?_
    rw [hsl] at e1 ⊢
    exact kk p e s m args below meth c Q H' _ ls E hK hR (fin H' e1 e2 e3) (hS.put e2 e3 hA) hb hl
theorem xt_iald {i N : Nat} {f : Nat → Int32} {x : Int32} (k : Nat) (hi : h i = some (ax_I N f)) (hk : k < N) (hx : x = nI k) (hN : N < 2 ^ 31) (hd : decode cc pc = .ok (.iaload, 1)) (kk : ax_T l G cy b R own nm cc nL ret K mc ms (pc + 1) lv (.int (f k) :: st) h n cells slots) : ax_T l G cy b R own nm cc nL ret K mc ms pc lv (.int x :: .ref i :: st) h n cells slots := by
  intro p e s m args below meth c Q H locs ls E hK hR hRp hS hb hl
  subst hx
  have hc : (nI k).toNatClampNeg = k := nI_clamp (by omega)
  have hin : ¬ (nI k < 0 ∨ N ≤ (nI k).toNatClampNeg) := nI_in hk hN
  refine W.iald (v := ax_v b (.int (f k))) E.1 E.2.1 (hRp.2 i _ hi) ((hK.1.2 0 _ rfl).1 N _) (fun q => by cases q) (by show ¬ (_ ∨ (arrV _ _ _).slots.size ≤ _); rw [arrV_size]; exact hin) (by show (arrV _ N _).slots[_]? = _; rw [hc, arrV_read _ _ hk]; first | rfl | skip) rfl rfl hd (kk p e s m args below meth c Q H locs ls E hK hR hRp hS hb hl)
theorem xt_lald {i N : Nat} {f : Nat → Int64} {x : Int32} (k : Nat) (hi : h i = some (ax_L N f)) (hk : k < N) (hx : x = nI k) (hN : N < 2 ^ 31) (hd : decode cc pc = .ok (.laload, 1)) (kk : ax_T l G cy b R own nm cc nL ret K mc ms (pc + 1) lv (.long (f k) :: st) h n cells slots) : ax_T l G cy b R own nm cc nL ret K mc ms pc lv (.int x :: .ref i :: st) h n cells slots := by
  intro p e s m args below meth c Q H locs ls E hK hR hRp hS hb hl
  subst hx
  have hc : (nI k).toNatClampNeg = k := nI_clamp (by omega)
  have hin : ¬ (nI k < 0 ∨ N ≤ (nI k).toNatClampNeg) := nI_in hk hN
  refine W.lald (v := ax_v b (.long (f k))) E.1 E.2.1 (hRp.2 i _ hi) ((hK.1.2 1 _ rfl).1 N _) (fun q => by cases q) (by show ¬ (_ ∨ (arrV _ _ _).slots.size ≤ _); rw [arrV_size]; exact hin) (by show (arrV _ N _).slots[_]? = _; rw [hc, arrV_read _ _ hk]; first | rfl | skip) rfl rfl hd (kk p e s m args below meth c Q H locs ls E hK hR hRp hS hb hl)
theorem xt_cald {i N : Nat} {f : Nat → Int32} {x : Int32} (k : Nat) (hi : h i = some (ax_B N f)) (hk : k < N) (hx : x = nI k) (hN : N < 2 ^ 31) (hd : decode cc pc = .ok (.caload, 1)) (kk : ax_T l G cy b R own nm cc nL ret K mc ms (pc + 1) lv (.int (f k) :: st) h n cells slots) : ax_T l G cy b R own nm cc nL ret K mc ms pc lv (.int x :: .ref i :: st) h n cells slots := by
  intro p e s m args below meth c Q H locs ls E hK hR hRp hS hb hl
  subst hx
  have hc : (nI k).toNatClampNeg = k := nI_clamp (by omega)
  have hin : ¬ (nI k < 0 ∨ N ≤ (nI k).toNatClampNeg) := nI_in hk hN
  refine W.cald (v := ax_v b (.int (f k))) E.1 E.2.1 (hRp.2 i _ hi) ((hK.1.2 2 _ rfl).1 N _) (fun q => by cases q) (by show ¬ (_ ∨ (arrV _ _ _).slots.size ≤ _); rw [arrV_size]; exact hin) (by show (arrV _ N _).slots[_]? = _; rw [hc, arrV_read _ _ hk]; first | rfl | skip) rfl rfl hd (kk p e s m args below meth c Q H locs ls E hK hR hRp hS hb hl)
theorem xt_aald3 {i N q : Nat} {f : Nat → Option Nat} {x : Int32} (k : Nat) (hi : h i = some (ax_R 3 N f)) (hk : k < N) (hx : x = nI k) (hN : N < 2 ^ 31) (hq : f k = some q) (hd : decode cc pc = .ok (.aaload, 1)) (kk : ax_T l G cy b R own nm cc nL ret K mc ms (pc + 1) lv (.ref q :: st) h n cells slots) : ax_T l G cy b R own nm cc nL ret K mc ms pc lv (.int x :: .ref i :: st) h n cells slots := by
  intro p e s m args below meth c Q H locs ls E hK hR hRp hS hb hl
  subst hx
  have hc : (nI k).toNatClampNeg = k := nI_clamp (by omega)
  have hin : ¬ (nI k < 0 ∨ N ≤ (nI k).toNatClampNeg) := nI_in hk hN
  refine W.aald (v := .ref (b + q)) (ty := .object RX2) E.1 E.2.1 (hRp.2 i _ hi) ((hK.1.2 3 _ rfl).1 N _) rfl (fun q => by cases q) (by show ¬ (_ ∨ (arrV _ _ _).slots.size ≤ _); rw [arrV_size]; exact hin) (by show (arrV _ N _).slots[_]? = _; rw [hc, arrV_read _ _ hk]; show some (va_rf ((f k).map _)) = _; rw [hq]; rfl) rfl rfl hd (kk p e s m args below meth c Q H locs ls E hK hR hRp hS hb hl)
theorem xt_aald4 {i N q : Nat} {f : Nat → Option Nat} {x : Int32} (k : Nat) (hi : h i = some (ax_R 4 N f)) (hk : k < N) (hx : x = nI k) (hN : N < 2 ^ 31) (hq : f k = some q) (hd : decode cc pc = .ok (.aaload, 1)) (kk : ax_T l G cy b R own nm cc nL ret K mc ms (pc + 1) lv (.ref q :: st) h n cells slots) : ax_T l G cy b R own nm cc nL ret K mc ms pc lv (.int x :: .ref i :: st) h n cells slots := by
  intro p e s m args below meth c Q H locs ls E hK hR hRp hS hb hl
  subst hx
  have hc : (nI k).toNatClampNeg = k := nI_clamp (by omega)
  have hin : ¬ (nI k < 0 ∨ N ≤ (nI k).toNatClampNeg) := nI_in hk hN
  refine W.aald (v := .ref (b + q)) (ty := .object RX4) E.1 E.2.1 (hRp.2 i _ hi) ((hK.1.2 4 _ rfl).1 N _) rfl (fun q => by cases q) (by show ¬ (_ ∨ (arrV _ _ _).slots.size ≤ _); rw [arrV_size]; exact hin) (by show (arrV _ N _).slots[_]? = _; rw [hc, arrV_read _ _ hk]; show some (va_rf ((f k).map _)) = _; rw [hq]; rfl) rfl rfl hd (kk p e s m args below meth c Q H locs ls E hK hR hRp hS hb hl)
theorem xt_aald5 {i N q : Nat} {f : Nat → Option Nat} {x : Int32} (k : Nat) (hi : h i = some (ax_R 5 N f)) (hk : k < N) (hx : x = nI k) (hN : N < 2 ^ 31) (hq : f k = some q) (hd : decode cc pc = .ok (.aaload, 1)) (kk : ax_T l G cy b R own nm cc nL ret K mc ms (pc + 1) lv (.ref q :: st) h n cells slots) : ax_T l G cy b R own nm cc nL ret K mc ms pc lv (.int x :: .ref i :: st) h n cells slots := by
  intro p e s m args below meth c Q H locs ls E hK hR hRp hS hb hl
  subst hx
  have hc : (nI k).toNatClampNeg = k := nI_clamp (by omega)
  have hin : ¬ (nI k < 0 ∨ N ≤ (nI k).toNatClampNeg) := nI_in hk hN
  refine W.aald (v := .ref (b + q)) (ty := .object RX5) E.1 E.2.1 (hRp.2 i _ hi) ((hK.1.2 5 _ rfl).1 N _) rfl (fun q => by cases q) (by show ¬ (_ ∨ (arrV _ _ _).slots.size ≤ _); rw [arrV_size]; exact hin) (by show (arrV _ N _).slots[_]? = _; rw [hc, arrV_read _ _ hk]; show some (va_rf ((f k).map _)) = _; rw [hq]; rfl) rfl rfl hd (kk p e s m args below meth c Q H locs ls E hK hR hRp hS hb hl)
theorem xt_iast {i N : Nat} {f : Nat → Int32} {x : Int32} {v : Int32} (k : Nat) (hi : h i = some (ax_I N f)) (hk : k < N) (hx : x = nI k) (hN : N < 2 ^ 31) (hd : decode cc pc = .ok (.iastore, 1)) (kk : ax_T l G cy b R own nm cc nL ret K mc ms (pc + 1) lv st (hp h i (ax_I N (upd f k v))) n cells slots) : ax_T l G cy b R own nm cc nL ret K mc ms pc lv (.int v :: .int x :: .ref i :: st) h n cells slots := by
  intro p e s m args below meth c Q H locs ls E hK hR hRp hS hb hl
  subst hx
  have hc : (nI k).toNatClampNeg = k := nI_clamp (by omega)
  have hin : ¬ (nI k < 0 ∨ N ≤ (nI k).toNatClampNeg) := nI_in hk hN
  refine W.iast E.1 E.2.1 (hRp.2 i _ hi) ((hK.1.2 0 _ rfl).1 N _) (fun q => by cases q) (by show ¬ (_ ∨ (arrV _ _ _).slots.size ≤ _); rw [arrV_size]; exact hin) rfl rfl hd fun H1 e1 z oq => ?_
  refine kk p e s m args below meth c Q H1 _ ls E hK hR (hRp.set z ?_ oq) (hS.put z oq (by show b ≤ b + i; omega)) hb hl
  show H1[b + i]? = some (vp_cell _ _)
  rw [e1, hc]
  show some ((vp_cell _ _).setSlot _ _) = some (vp_cell _ _)
  rw [show ax_a b (N, .inl f) = (N, .inl f) from rfl, show ax_a b (N, .inl (upd f k v)) = (N, .inl (upd f k v)) from rfl, vp_cell_i, vp_cell_i, arrV_store]
  congr 2
  funext q
  by_cases hq : q = k
  · subst hq; simp [updV, upd]
  · simp [updV, upd, hq]
theorem xt_last {i N : Nat} {f : Nat → Int64} {x : Int32} {v : Int64} (k : Nat) (hi : h i = some (ax_L N f)) (hk : k < N) (hx : x = nI k) (hN : N < 2 ^ 31) (hd : decode cc pc = .ok (.lastore, 1)) (kk : ax_T l G cy b R own nm cc nL ret K mc ms (pc + 1) lv st (hp h i (ax_L N (vp_updL f k v))) n cells slots) : ax_T l G cy b R own nm cc nL ret K mc ms pc lv (.long v :: .int x :: .ref i :: st) h n cells slots := by
  intro p e s m args below meth c Q H locs ls E hK hR hRp hS hb hl
  subst hx
  have hc : (nI k).toNatClampNeg = k := nI_clamp (by omega)
  have hin : ¬ (nI k < 0 ∨ N ≤ (nI k).toNatClampNeg) := nI_in hk hN
  refine W.last E.1 E.2.1 (hRp.2 i _ hi) ((hK.1.2 1 _ rfl).1 N _) (fun q => by cases q) (by show ¬ (_ ∨ (arrV _ _ _).slots.size ≤ _); rw [arrV_size]; exact hin) rfl rfl hd fun H1 e1 z oq => ?_
  refine kk p e s m args below meth c Q H1 _ ls E hK hR (hRp.set z ?_ oq) (hS.put z oq (by show b ≤ b + i; omega)) hb hl
  show H1[b + i]? = some (vp_cell _ _)
  rw [e1, hc]
  show some ((vp_cell _ _).setSlot _ _) = some (vp_cell _ _)
  rw [show ax_a b (N, .inr (.inl f)) = (N, .inr (.inl f)) from rfl, show ax_a b (N, .inr (.inl (vp_updL f k v))) = (N, .inr (.inl (vp_updL f k v))) from rfl, vp_cell_l, vp_cell_l, arrV_store]
  congr 2
  funext q
  by_cases hq : q = k
  · subst hq; simp [updV, vp_updL]
  · simp [updV, vp_updL, hq]
theorem xt_cast {i N : Nat} {f : Nat → Int32} {x : Int32} {v : Int32} (k : Nat) (hi : h i = some (ax_B N f)) (hk : k < N) (hx : x = nI k) (hN : N < 2 ^ 31) (hd : decode cc pc = .ok (.castore, 1)) (kk : ax_T l G cy b R own nm cc nL ret K mc ms (pc + 1) lv st (hp h i (ax_B N (upd f k (vp_nar .char v)))) n cells slots) : ax_T l G cy b R own nm cc nL ret K mc ms pc lv (.int v :: .int x :: .ref i :: st) h n cells slots := by
  intro p e s m args below meth c Q H locs ls E hK hR hRp hS hb hl
  subst hx
  have hc : (nI k).toNatClampNeg = k := nI_clamp (by omega)
  have hin : ¬ (nI k < 0 ∨ N ≤ (nI k).toNatClampNeg) := nI_in hk hN
  refine W.cast E.1 E.2.1 (hRp.2 i _ hi) ((hK.1.2 2 _ rfl).1 N _) (fun q => by cases q) (by show ¬ (_ ∨ (arrV _ _ _).slots.size ≤ _); rw [arrV_size]; exact hin) rfl rfl hd fun H1 e1 z oq => ?_
  refine kk p e s m args below meth c Q H1 _ ls E hK hR (hRp.set z ?_ oq) (hS.put z oq (by show b ≤ b + i; omega)) hb hl
  show H1[b + i]? = some (vp_cell _ _)
  rw [e1, hc]
  show some ((vp_cell _ _).setSlot _ _) = some (vp_cell _ _)
  rw [show ax_a b (N, .inl f) = (N, .inl f) from rfl, show ax_a b (N, .inl (upd f k (vp_nar .char v))) = (N, .inl (upd f k (vp_nar .char v))) from rfl, vp_cell_i, vp_cell_i, arrV_store]
  congr 2
  funext q
  by_cases hq : q = k
  · subst hq; (simp [updV, upd, vp_nar] <;> rfl)
  · simp [updV, upd, vp_nar, hq]
theorem xt_aast3 {i N q : Nat} {f : Nat → Option Nat} {x : Int32} {fs : List Value} (k : Nat) (hi : h i = some (ax_R 3 N f)) (hk : k < N) (hx : x = nI k) (hN : N < 2 ^ 31) (hq : h q = some (.inr (2, fs))) (hd : decode cc pc = .ok (.aastore, 1)) (kk : ax_T l G cy b R own nm cc nL ret K mc ms (pc + 1) lv st (hp h i (ax_R 3 N (va_up f k (some q)))) n cells slots) : ax_T l G cy b R own nm cc nL ret K mc ms pc lv (.ref q :: .int x :: .ref i :: st) h n cells slots := by
  intro p e s m args below meth c Q H locs ls E hK hR hRp hS hb hl
  subst hx
  have hc : (nI k).toNatClampNeg = k := nI_clamp (by omega)
  have h0 : ¬ nI k < 0 := nI_pos (by omega)
  obtain ⟨r', hr', cellV, g1, g2, g3, -⟩ := hRp.2 q _ hq
  have hcls := (hK.1.1 2 _ rfl).2
  obtain ⟨kA, comp, k1, k2, k3, -⟩ := (hK.1.2 3 _ rfl).2
  have hcomp : comp = G.1 2 := Option.some.inj (k3.symm.trans hcls.1)
  subst hcomp
  obtain ⟨kC, hkC, -⟩ := hcls.2
  refine W.aast E.1 E.2.1 (hRp.2 i _ hi) (fun q h => by cases h) (fun h => by cases h) k1 k2 rfl hkC ⟨h0, by show _ < (arrV _ _ _).slots.size; rw [arrV_size, hc]; exact hk⟩ g1 (fun q h => by rw [g3] at h; cases h) (by rw [g2]; exact hkC) (by rw [g2]; exact va_assign hcls) rfl rfl hd fun H1 e1 z oq => ?_
  refine kk p e s m args below meth c Q H1 _ ls E hK hR (hRp.set z ?_ oq) (hS.put z oq (by show b ≤ b + i; omega)) hb hl
  show H1[b + i]? = some (vp_cell _ _)
  rw [e1, hc]
  show some ((arrV _ N (fun j => va_rf ((f j).map (fun i => b + i)))).setSlot _ _) = some (arrV _ N (fun j => va_rf ((va_up f k (some q) j).map (fun i => b + i))))
  rw [arrV_store]
  congr 2
  funext j
  by_cases hj : j = k
  · subst hj; simp [updV, va_up, va_rf]
  · simp [updV, va_up, hj]
theorem xt_aast4 {i N q : Nat} {f : Nat → Option Nat} {x : Int32} {fs : List Value} (k : Nat) (hi : h i = some (ax_R 4 N f)) (hk : k < N) (hx : x = nI k) (hN : N < 2 ^ 31) (hq : h q = some (.inr (4, fs))) (hd : decode cc pc = .ok (.aastore, 1)) (kk : ax_T l G cy b R own nm cc nL ret K mc ms (pc + 1) lv st (hp h i (ax_R 4 N (va_up f k (some q)))) n cells slots) : ax_T l G cy b R own nm cc nL ret K mc ms pc lv (.ref q :: .int x :: .ref i :: st) h n cells slots := by
  intro p e s m args below meth c Q H locs ls E hK hR hRp hS hb hl
  subst hx
  have hc : (nI k).toNatClampNeg = k := nI_clamp (by omega)
  have h0 : ¬ nI k < 0 := nI_pos (by omega)
  obtain ⟨r', hr', cellV, g1, g2, g3, -⟩ := hRp.2 q _ hq
  have hcls := (hK.1.1 4 _ rfl).2
  obtain ⟨kA, comp, k1, k2, k3, -⟩ := (hK.1.2 4 _ rfl).2
  have hcomp : comp = G.1 4 := Option.some.inj (k3.symm.trans hcls.1)
  subst hcomp
  obtain ⟨kC, hkC, -⟩ := hcls.2
  refine W.aast E.1 E.2.1 (hRp.2 i _ hi) (fun q h => by cases h) (fun h => by cases h) k1 k2 rfl hkC ⟨h0, by show _ < (arrV _ _ _).slots.size; rw [arrV_size, hc]; exact hk⟩ g1 (fun q h => by rw [g3] at h; cases h) (by rw [g2]; exact hkC) (by rw [g2]; exact va_assign hcls) rfl rfl hd fun H1 e1 z oq => ?_
  refine kk p e s m args below meth c Q H1 _ ls E hK hR (hRp.set z ?_ oq) (hS.put z oq (by show b ≤ b + i; omega)) hb hl
  show H1[b + i]? = some (vp_cell _ _)
  rw [e1, hc]
  show some ((arrV _ N (fun j => va_rf ((f j).map (fun i => b + i)))).setSlot _ _) = some (arrV _ N (fun j => va_rf ((va_up f k (some q) j).map (fun i => b + i))))
  rw [arrV_store]
  congr 2
  funext j
  by_cases hj : j = k
  · subst hj; simp [updV, va_up, va_rf]
  · simp [updV, va_up, hj]
theorem xt_aast5 {i N q : Nat} {f : Nat → Option Nat} {x : Int32} {fs : List Value} (k : Nat) (hi : h i = some (ax_R 5 N f)) (hk : k < N) (hx : x = nI k) (hN : N < 2 ^ 31) (hq : h q = some (.inr (5, fs))) (hd : decode cc pc = .ok (.aastore, 1)) (kk : ax_T l G cy b R own nm cc nL ret K mc ms (pc + 1) lv st (hp h i (ax_R 5 N (va_up f k (some q)))) n cells slots) : ax_T l G cy b R own nm cc nL ret K mc ms pc lv (.ref q :: .int x :: .ref i :: st) h n cells slots := by
  intro p e s m args below meth c Q H locs ls E hK hR hRp hS hb hl
  subst hx
  have hc : (nI k).toNatClampNeg = k := nI_clamp (by omega)
  have h0 : ¬ nI k < 0 := nI_pos (by omega)
  obtain ⟨r', hr', cellV, g1, g2, g3, -⟩ := hRp.2 q _ hq
  have hcls := (hK.1.1 5 _ rfl).2
  obtain ⟨kA, comp, k1, k2, k3, -⟩ := (hK.1.2 5 _ rfl).2
  have hcomp : comp = G.1 5 := Option.some.inj (k3.symm.trans hcls.1)
  subst hcomp
  obtain ⟨kC, hkC, -⟩ := hcls.2
  refine W.aast E.1 E.2.1 (hRp.2 i _ hi) (fun q h => by cases h) (fun h => by cases h) k1 k2 rfl hkC ⟨h0, by show _ < (arrV _ _ _).slots.size; rw [arrV_size, hc]; exact hk⟩ g1 (fun q h => by rw [g3] at h; cases h) (by rw [g2]; exact hkC) (by rw [g2]; exact va_assign hcls) rfl rfl hd fun H1 e1 z oq => ?_
  refine kk p e s m args below meth c Q H1 _ ls E hK hR (hRp.set z ?_ oq) (hS.put z oq (by show b ≤ b + i; omega)) hb hl
  show H1[b + i]? = some (vp_cell _ _)
  rw [e1, hc]
  show some ((arrV _ N (fun j => va_rf ((f j).map (fun i => b + i)))).setSlot _ _) = some (arrV _ N (fun j => va_rf ((va_up f k (some q) j).map (fun i => b + i))))
  rw [arrV_store]
  congr 2
  funext j
  by_cases hj : j = k
  · subst hj; simp [updV, va_up, va_rf]
  · simp [updV, va_up, hj]
theorem xt_newG {ci index N : Nat} {C : String} {TT : u_T} {ty : Nat → FieldType} {fs : List Value} (hc : vwCl[ci]? = some (C, TT, N)) (hin : ∀ w ∈ u_ws C TT N, w ∈ ax_Tb) (hty : ∀ k, k < N → parseFieldDescriptor (TT k).2.2.1 = some (ty k)) (hcl : Cond.classLink own index C ∈ ax_Tb) (hins : Cond.instantiable C N ∈ ax_Tb) (hini : Cond.initialized C ∈ ax_Tb)
    (hfs : ∀ b j, j < N → defaultValue (ty j) = vp_V (fs.map (ax_v b)) j) (hcells : cells + 1 ≤ R.cells) (hslots : slots + N ≤ R.slots) (hd : decode cc pc = .ok (.new index, 3)) (kk : ax_T l G cy b R own nm cc nL ret K mc ms (pc + 3) lv (.ref n :: st) (hp h n (.inr (ci, fs))) (n + 1) (cells + 1) (slots + N)) : ax_T l G cy b R own nm cc nL ret K mc ms pc lv st h n cells slots := by
  intro p e s m args below meth c Q H locs ls E hK hR hRp hS hb hl
  have hts := E.2.2.2.2.1
  have hKn := hK.1.1 ci _ hc
  refine W.newcK E.1 E.2.1 E.2.2.2.1 (hts _ hcl) (hts _ hins) (hts _ hini) rfl hd hcells hslots hKn.2.1 rfl fun H1 kC hkC e1 z1 o1 => ?_
  have hz : H.size = b + n := hRp.1
  have hRp' : ax_Rep G cy b (n + 1) (hp h n (.inr (ci, fs))) H1 := hRp.push z1 ⟨_, hc, (u_born ty hts hin hKn hkC e1 hty).to (hfs b)⟩ o1
  rw [hz]
  exact kk p e s m args below meth c Q H1 locs ls E hK hR hRp' ⟨Nat.le_trans hS.1 (by omega), fun x h1 h2 => (o1 x (Nat.lt_of_lt_of_le h1 hS.1)).trans (hS.2.1 x h1 h2), hS.2.2⟩ hb hl
theorem xt_newI {x : Int32} (N : Nat) (hx : x = nI N) (hN : N ≤ 1000) (hw : Cond.arrayClass .int ∈ ax_Tb) (hcells : cells + 1 ≤ R.cells) (hslots : slots + N ≤ R.slots) (hd : decode cc pc = .ok (.newarray .int, 2)) (kk : ax_T l G cy b R own nm cc nL ret K mc ms (pc + 2) lv (.ref n :: st) (hp h n (ax_I N (fun _ => 0))) (n + 1) (cells + 1) (slots + N)) : ax_T l G cy b R own nm cc nL ret K mc ms pc lv (.int x :: st) h n cells slots := by
  intro p e s m args below meth c Q H locs ls E hK hR hRp hS hb hl
  subst hx
  have hz : H.size = b + n := hRp.1
  refine va_newaK (atype := .int) E.1 E.2.1 (E.2.2.2.2.1 _ hw) rfl hd rfl (nI_pos (by omega)) (nI_clamp (by omega)) (by show N * _ ≤ _; simp only [newarray.typeOf, componentBytes]; omega) hcells hslots hz fun H1 cA e1 z1 o1 hAr hNm => ?_
  have hcA : cA = cy.1 0 := Option.some.inj (hNm.symm.trans (hK.1.2 0 _ rfl).2)
  subst hcA
  have hRp' : ax_Rep G cy b (n + 1) (hp h n (ax_I N (fun _ => 0))) H1 := hRp.push (by rw [z1, hz]) (by rw [hz]; exact e1) (fun q hq => o1 q (by rw [← hz]; exact hq))
  exact kk p e s m args below meth c Q H1 locs ls E hK hR hRp' ⟨Nat.le_trans hS.1 (by omega), fun x h1 h2 => (o1 x (by have := hS.1; omega)).trans (hS.2.1 x h1 h2), hS.2.2⟩ hb hl
theorem xt_newL {x : Int32} (N : Nat) (hx : x = nI N) (hN : N ≤ 1000) (hw : Cond.arrayClass .long ∈ ax_Tb) (hcells : cells + 1 ≤ R.cells) (hslots : slots + N ≤ R.slots) (hd : decode cc pc = .ok (.newarray .long, 2)) (kk : ax_T l G cy b R own nm cc nL ret K mc ms (pc + 2) lv (.ref n :: st) (hp h n (ax_L N (fun _ => 0))) (n + 1) (cells + 1) (slots + N)) : ax_T l G cy b R own nm cc nL ret K mc ms pc lv (.int x :: st) h n cells slots := by
  intro p e s m args below meth c Q H locs ls E hK hR hRp hS hb hl
  subst hx
  have hz : H.size = b + n := hRp.1
  refine va_newaK (atype := .long) E.1 E.2.1 (E.2.2.2.2.1 _ hw) rfl hd rfl (nI_pos (by omega)) (nI_clamp (by omega)) (by show N * _ ≤ _; simp only [newarray.typeOf, componentBytes]; omega) hcells hslots hz fun H1 cA e1 z1 o1 hAr hNm => ?_
  have hcA : cA = cy.1 1 := Option.some.inj (hNm.symm.trans (hK.1.2 1 _ rfl).2)
  subst hcA
  have hRp' : ax_Rep G cy b (n + 1) (hp h n (ax_L N (fun _ => 0))) H1 := hRp.push (by rw [z1, hz]) (by rw [hz]; exact e1) (fun q hq => o1 q (by rw [← hz]; exact hq))
  exact kk p e s m args below meth c Q H1 locs ls E hK hR hRp' ⟨Nat.le_trans hS.1 (by omega), fun x h1 h2 => (o1 x (by have := hS.1; omega)).trans (hS.2.1 x h1 h2), hS.2.2⟩ hb hl
theorem xt_newB {x : Int32} (N : Nat) (hx : x = nI N) (hN : N ≤ 1000) (hw : Cond.arrayClass .char ∈ ax_Tb) (hcells : cells + 1 ≤ R.cells) (hslots : slots + N ≤ R.slots) (hd : decode cc pc = .ok (.newarray .char, 2)) (kk : ax_T l G cy b R own nm cc nL ret K mc ms (pc + 2) lv (.ref n :: st) (hp h n (ax_B N (fun _ => 0))) (n + 1) (cells + 1) (slots + N)) : ax_T l G cy b R own nm cc nL ret K mc ms pc lv (.int x :: st) h n cells slots := by
  intro p e s m args below meth c Q H locs ls E hK hR hRp hS hb hl
  subst hx
  have hz : H.size = b + n := hRp.1
  refine va_newaK (atype := .char) E.1 E.2.1 (E.2.2.2.2.1 _ hw) rfl hd rfl (nI_pos (by omega)) (nI_clamp (by omega)) (by show N * _ ≤ _; simp only [newarray.typeOf, componentBytes]; omega) hcells hslots hz fun H1 cA e1 z1 o1 hAr hNm => ?_
  have hcA : cA = cy.1 2 := Option.some.inj (hNm.symm.trans (hK.1.2 2 _ rfl).2)
  subst hcA
  have hRp' : ax_Rep G cy b (n + 1) (hp h n (ax_B N (fun _ => 0))) H1 := hRp.push (by rw [z1, hz]) (by rw [hz]; exact e1) (fun q hq => o1 q (by rw [← hz]; exact hq))
  exact kk p e s m args below meth c Q H1 locs ls E hK hR hRp' ⟨Nat.le_trans hS.1 (by omega), fun x h1 h2 => (o1 x (by have := hS.1; omega)).trans (hS.2.1 x h1 h2), hS.2.2⟩ hb hl
theorem xt_anew3 {x : Int32} {index : Nat} (N : Nat) (hx : x = nI N) (hN : N ≤ 1000) (hw : Cond.classLink own index RX2 ∈ ax_Tb) (hcells : cells + 1 ≤ R.cells) (hslots : slots + N ≤ R.slots) (hd : decode cc pc = .ok (.anewarray index, 3)) (kk : ax_T l G cy b R own nm cc nL ret K mc ms (pc + 3) lv (.ref n :: st) (hp h n (ax_R 3 N (fun _ => none))) (n + 1) (cells + 1) (slots + N)) : ax_T l G cy b R own nm cc nL ret K mc ms pc lv (.int x :: st) h n cells slots := by
  intro p e s m args below meth c Q H locs ls E hK hR hRp hS hb hl
  subst hx
  have hz : H.size = b + n := hRp.1
  have hcN : (nI N).toNatClampNeg = N := nI_clamp (by omega)
  refine W.anew E.1 E.2.1 E.2.2.2.1 (E.2.2.2.2.1 _ hw) (va_AO.use hK.2.2.1.1) rfl hd rfl (nI_pos (by omega)) (by rw [hcN]; omega) hcells (by rw [hcN]; exact hslots) fun cA kA comp f1 f2 f3 f4 => ?_
  rw [hcN]
  generalize hH1 : H.push ({ cls := cA, slots := Array.replicate N .null, vm := .none } : Cell) = H1
  have z1 : H1.size = H.size + 1 := by rw [← hH1, Array.size_push]
  have e1 : H1[H.size]? = some (arrV cA N (fun _ => .null)) := by rw [← hH1, Array.getElem?_push_size, ← arrV_new]
  have o1 : ∀ q : Nat, q < H.size → H1[q]? = H[q]? := fun q hq => by rw [← hH1, Array.getElem?_push, if_neg (Nat.ne_of_lt hq)]
  have hcA : cA = cy.1 3 := by
    obtain ⟨kA', comp', k1, k2, k3, k4⟩ := (hK.1.2 3 _ rfl).2
    exact Option.some.inj (f1.symm.trans k4)
  subst hcA
  have hRp' : ax_Rep G cy b (n + 1) (hp h n (ax_R 3 N (fun _ => none))) H1 := hRp.push z1 e1 o1
  rw [hz]
  exact kk p e s m args below meth c Q H1 locs ls E hK hR hRp' ⟨Nat.le_trans hS.1 (by omega), fun x h1 h2 => (o1 x (Nat.lt_of_lt_of_le h1 hS.1)).trans (hS.2.1 x h1 h2), hS.2.2⟩ hb hl
theorem xt_anew4 {x : Int32} {index : Nat} (N : Nat) (hx : x = nI N) (hN : N ≤ 1000) (hw : Cond.classLink own index RX4 ∈ ax_Tb) (hcells : cells + 1 ≤ R.cells) (hslots : slots + N ≤ R.slots) (hd : decode cc pc = .ok (.anewarray index, 3)) (kk : ax_T l G cy b R own nm cc nL ret K mc ms (pc + 3) lv (.ref n :: st) (hp h n (ax_R 4 N (fun _ => none))) (n + 1) (cells + 1) (slots + N)) : ax_T l G cy b R own nm cc nL ret K mc ms pc lv (.int x :: st) h n cells slots := by
  intro p e s m args below meth c Q H locs ls E hK hR hRp hS hb hl
  subst hx
  have hz : H.size = b + n := hRp.1
  have hcN : (nI N).toNatClampNeg = N := nI_clamp (by omega)
  refine W.anew E.1 E.2.1 E.2.2.2.1 (E.2.2.2.2.1 _ hw) (va_AO.use hK.2.2.1.2.1) rfl hd rfl (nI_pos (by omega)) (by rw [hcN]; omega) hcells (by rw [hcN]; exact hslots) fun cA kA comp f1 f2 f3 f4 => ?_
  rw [hcN]
  generalize hH1 : H.push ({ cls := cA, slots := Array.replicate N .null, vm := .none } : Cell) = H1
  have z1 : H1.size = H.size + 1 := by rw [← hH1, Array.size_push]
  have e1 : H1[H.size]? = some (arrV cA N (fun _ => .null)) := by rw [← hH1, Array.getElem?_push_size, ← arrV_new]
  have o1 : ∀ q : Nat, q < H.size → H1[q]? = H[q]? := fun q hq => by rw [← hH1, Array.getElem?_push, if_neg (Nat.ne_of_lt hq)]
  have hcA : cA = cy.1 4 := by
    obtain ⟨kA', comp', k1, k2, k3, k4⟩ := (hK.1.2 4 _ rfl).2
    exact Option.some.inj (f1.symm.trans k4)
  subst hcA
  have hRp' : ax_Rep G cy b (n + 1) (hp h n (ax_R 4 N (fun _ => none))) H1 := hRp.push z1 e1 o1
  rw [hz]
  exact kk p e s m args below meth c Q H1 locs ls E hK hR hRp' ⟨Nat.le_trans hS.1 (by omega), fun x h1 h2 => (o1 x (Nat.lt_of_lt_of_le h1 hS.1)).trans (hS.2.1 x h1 h2), hS.2.2⟩ hb hl
theorem xt_anew5 {x : Int32} {index : Nat} (N : Nat) (hx : x = nI N) (hN : N ≤ 1000) (hw : Cond.classLink own index RX5 ∈ ax_Tb) (hcells : cells + 1 ≤ R.cells) (hslots : slots + N ≤ R.slots) (hd : decode cc pc = .ok (.anewarray index, 3)) (kk : ax_T l G cy b R own nm cc nL ret K mc ms (pc + 3) lv (.ref n :: st) (hp h n (ax_R 5 N (fun _ => none))) (n + 1) (cells + 1) (slots + N)) : ax_T l G cy b R own nm cc nL ret K mc ms pc lv (.int x :: st) h n cells slots := by
  intro p e s m args below meth c Q H locs ls E hK hR hRp hS hb hl
  subst hx
  have hz : H.size = b + n := hRp.1
  have hcN : (nI N).toNatClampNeg = N := nI_clamp (by omega)
  refine W.anew E.1 E.2.1 E.2.2.2.1 (E.2.2.2.2.1 _ hw) (va_AO.use hK.2.2.1.2.2) rfl hd rfl (nI_pos (by omega)) (by rw [hcN]; omega) hcells (by rw [hcN]; exact hslots) fun cA kA comp f1 f2 f3 f4 => ?_
  rw [hcN]
  generalize hH1 : H.push ({ cls := cA, slots := Array.replicate N .null, vm := .none } : Cell) = H1
  have z1 : H1.size = H.size + 1 := by rw [← hH1, Array.size_push]
  have e1 : H1[H.size]? = some (arrV cA N (fun _ => .null)) := by rw [← hH1, Array.getElem?_push_size, ← arrV_new]
  have o1 : ∀ q : Nat, q < H.size → H1[q]? = H[q]? := fun q hq => by rw [← hH1, Array.getElem?_push, if_neg (Nat.ne_of_lt hq)]
  have hcA : cA = cy.1 5 := by
    obtain ⟨kA', comp', k1, k2, k3, k4⟩ := (hK.1.2 5 _ rfl).2
    exact Option.some.inj (f1.symm.trans k4)
  subst hcA
  have hRp' : ax_Rep G cy b (n + 1) (hp h n (ax_R 5 N (fun _ => none))) H1 := hRp.push z1 e1 o1
  rw [hz]
  exact kk p e s m args below meth c Q H1 locs ls E hK hR hRp' ⟨Nat.le_trans hS.1 (by omega), fun x h1 h2 => (o1 x (Nat.lt_of_lt_of_le h1 hS.1)).trans (hS.2.1 x h1 h2), hS.2.2⟩ hb hl
end AXI
end
section
section AXC
variable {l : Launch} {G : va_G} {cy : ax_Y} {b : Nat} {R : Room} {own nm : String} {cc : ByteArray} {nL : Nat} {ret : Option FieldType} {K : Option Value → ax_H → Nat → Prop} {mc ms pc : Nat} {lv : List (Option Value)} {st : List Value} {h : ax_H} {n cells slots : Nat}
variable {y : MethodName} {bytes : ByteArray} {maxL : Nat} {ret2 : Option FieldType} {d mc2 ms2 index : Nat} {K2 : Option Value → ax_H → Nat → Prop} {as st0 : List Value}
theorem ax_good (h : Cond.code y bytes maxL ret2 ∈ ax_Tb) : GoodIn ax_Tb (Cond.code y bytes maxL ret2 :: ax_Tb) := by
  intro w hw
  have hm : w ∈ ax_Tb := by
    rcases List.mem_cons.mp hw with q | q
    · rw [q]; exact h
    · exact q
  exact ⟨hm, good_of_word (List.mem_filter.mp hm).2⟩
def ax_Pc (G : va_G) (cy : ax_Y) (b n : Nat) (h : ax_H) (as : List Value) : Array Value → State → Prop := fun a U => a = (as.map (ax_v b)).toArray ∧ b ≤ U.heap.size ∧ ax_Rep G cy b n h U.heap ∧ ax_K G cy b U
theorem ax_blind : FrameBlind (ax_Pc G cy b n h as) := fun a U g mk q => ⟨q.1, q.2.1, q.2.2.1, q.2.2.2.call⟩
theorem ax_pre {s : State} {H : Heap} {locs : List Loc} (hK : ax_K G cy b s) (hRp : ax_Rep G cy b n h H) (hS : va_S (fun q => b ≤ q) s.heap H locs) (hb : b ≤ s.heap.size) (U : State) (hU : U.heap = H) (hW : s.WarmedH U.vm) : ax_Pc G cy b n h as (as.map (ax_v b)).toArray U :=
  ⟨rfl, by rw [hU]; exact Nat.le_trans hb hS.1, by rw [hU]; exact hRp, hK.moved hW (fun q q1 q2 => by rw [hU]; exact hS.2.1 q q1 q2)⟩
theorem ax_after {p : Program} {e : Env} {s : State} {m : MethodId} {args : Array Value} {below : List Frame} {meth : Method} {c : Code} {Q : State → Prop} {H : Heap} {locs : List Loc} {ls : Array Slot} {stc : List Value} {a : Array Value} (E : ax_Ev p s m args meth c own nm cc nL ret) (hK : ax_K G cy b s) (hR : ax_Rok p l e R s m args below meth c G cy b cc ret K mc ms Q) (hS : va_S (fun q => b ≤ q) s.heap H locs) (hb : b ≤ s.heap.size) (hl : ax_hasL b ls nL lv)
    (hr : va_Run p l e R s m args below meth c H locs cells slots mc2 ms2 (F0 m pc ls stc) (st.map (ax_v b)) ((fun (_ : Array Value) (st : State) (o : Outcome) (t : State) => ∃ (v : Option Value) (h' : ax_H) (n' : Nat), o = .returned (v.map (ax_v b)) ∧ K2 v h' n' ∧ ax_Rep G cy b n' h' t.heap ∧ st.heap.size ≤ t.heap.size ∧ ∀ q : Nat, q < st.heap.size → ¬ b ≤ q → t.heap[q]? = st.heap[q]?) a) (fun q => b ≤ q))
    (kk : ∀ v h' n', K2 v h' n' → ax_T l G cy b R own nm cc nL ret K mc ms (pc + 3) lv (v.toList ++ st) h' n' (cells + mc2) (slots + ms2)) : W p l e R s m args below meth c H locs cells slots Q (F0 m pc ls stc) := by
  intro T hT X
  obtain ⟨v, st₀, t, T', L, h0, X', hL, e1, e2, ⟨v', h', n', hv, hKv, hRp', hz, hk⟩, stp⟩ := hr T hT X
  have hv : v = v'.map (ax_v b) := Outcome.returned.inj hv
  subst hv
  rw [h0] at hz hk
  obtain ⟨t2, a1, b1⟩ := kk v' h' n' hKv p e s m args below meth c Q T'.heap (locs ++ L) ls E hK hR (by rw [e1]; exact hRp')
    ⟨Nat.le_trans hS.1 (by rw [e1]; exact hz), fun q h1 h2 => by rw [e1, hk q (Nat.lt_of_lt_of_le h1 hS.1) h2]; exact hS.2.1 q h1 h2, fun q hq => by
      rcases List.mem_append.mp hq with h | h
      · exact hS.2.2 q h
      · exact hL q h⟩ hb hl T' rfl X'
  refine ⟨t2, stp t2 ?_, b1⟩
  have e3 : (v'.toList ++ st).map (ax_v b) = (v'.map (ax_v b)).toList ++ st.map (ax_v b) := by cases v' <;> rfl
  rw [e3] at a1
  exact a1
theorem ax_h8 {st : List Value} (b : Nat) (h8 : (st.map fun v => v.category).sum ≤ 8) : ((st.map (ax_v b)).map fun v => v.category).sum ≤ 8 := by
  rw [List.map_map]
  rw [show ((fun v : Value => v.category) ∘ ax_v b) = (fun v : Value => v.category) from funext fun v => ax_vcat' b v]
  exact h8
theorem xt_callS (hC : ax_CM l G cy b y bytes maxL ret2 d mc2 ms2 as h n K2) (hcode : Cond.code y bytes maxL ret2 ∈ ax_Tb) (hini : Cond.initialized y.cls ∈ ax_Tb) (hstat : Cond.static y ∈ ax_Tb) (hlink : Cond.methodLink own index y ∈ ax_Tb ∨ ∃ host, Cond.methodLinkNest own index y host ∈ ax_Nw) (hde : y.cls ≠ "java/lang/invoke/MethodHandle" ∧ y.cls ≠ "java/lang/invoke/VarHandle" ∧ (parseMethodDescriptor y.desc).map (fun d => d.parameters.length) = some as.length) (hRm : d + 1 ≤ R.frames ∧ 8 + (maxL + 11) + 34 * d ≤ R.locals) (hm : cells + mc2 ≤ R.cells ∧ slots + ms2 ≤ R.slots) (h8 : (st.map fun v => v.category).sum ≤ 8) (hst : st0 = as.reverse ++ st) (hd : decode cc pc = .ok (.invokestatic index, 3)) (kk : ∀ v h' n', K2 v h' n' → ax_T l G cy b R own nm cc nL ret K mc ms (pc + 3) lv (v.toList ++ st) h' n' (cells + mc2) (slots + ms2)) : ax_T l G cy b R own nm cc nL ret K mc ms pc lv st0 h n cells slots := by
  intro p e s m args below meth c Q H locs ls E hK hR hRp hS hb hl
  have hts := E.2.2.2.2.1
  subst hst
  have e1 : (as.reverse ++ st).map (ax_v b) = (as.map (ax_v b)).reverse ++ st.map (ax_v b) := by rw [List.map_append, List.map_reverse]
  have hp : PreS s H (ax_Pc G cy b n h as) (as.map (ax_v b)) := ⟨ax_blind, fun U hU hW => ax_pre hK hRp hS hb U hU hW⟩
  rcases hlink with hlink | ⟨host, hlink⟩
  · have cw : CallB R s args own index y bytes maxL ret2 (Cond.code y bytes maxL ret2 :: ax_Tb) (ax_rm d mc2 ms2) mc2 ms2 as.length ∧ (Cond.static y).before args s = true := ⟨callB_of as.length hts (ax_good hcode) rfl rfl rfl (hts _ hini) (hts _ hlink) hde hRm, hts _ hstat⟩
    exact ax_after (a := #[]) E hK hR hS hb hl (va_runS ⟨E.1, E.2.1, E.2.2.1, E.2.2.2.1, hts⟩ hC cw hp rfl (by rw [List.length_map]) hl.1 e1 (lv_room (ax_h8 b h8)) hd hm) kk
  · have cw : va_CN R s args own index y host bytes maxL ret2 (Cond.code y bytes maxL ret2 :: ax_Tb) (ax_rm d mc2 ms2) mc2 ms2 as.length ∧ (Cond.static y).before args s = true ∧ True := ⟨va_cnB as.length hts (ax_good hcode) rfl rfl rfl (hK.2.1 _ hlink) (hts _ hini) hde hRm, hts _ hstat, trivial⟩
    exact ax_after (a := #[]) E hK hR hS hb hl (va_runSN ⟨E.1, E.2.1, E.2.2.1, E.2.2.2.1, hts⟩ hC cw hp rfl (by rw [List.length_map]) hl.1 e1 (lv_room (ax_h8 b h8)) hd hm) kk
theorem xt_callV {o ci : Nat} {fs : List Value} {q : vw_C} (hC : ax_CM l G cy b y bytes maxL ret2 d mc2 ms2 (.ref o :: as) h n K2) (ho : h o = some (.inr (ci, fs))) (hc : vwCl[ci]? = some q) (hq : q.1 = y.cls) (hcode : Cond.code y bytes maxL ret2 ∈ ax_Tb) (hini : Cond.initialized y.cls ∈ ax_Tb) (hinst : Cond.instanceMethod y ∈ ax_Tb) (hsel : Cond.selects y.cls y y ∈ ax_Tb) (hlink : Cond.methodLink own index y ∈ ax_Tb ∨ ∃ host, Cond.methodLinkNest own index y host ∈ ax_Nw) (hde : y.cls ≠ "java/lang/invoke/MethodHandle" ∧ y.cls ≠ "java/lang/invoke/VarHandle" ∧ (parseMethodDescriptor y.desc).map (fun d => d.parameters.length) = some as.length) (hRm : d + 1 ≤ R.frames ∧ 8 + (maxL + 11) + 34 * d ≤ R.locals) (hm : cells + mc2 ≤ R.cells ∧ slots + ms2 ≤ R.slots) (h8 : (st.map fun v => v.category).sum ≤ 8) (hst : st0 = as.reverse ++ .ref o :: st) (hd : decode cc pc = .ok (.invokevirtual index, 3)) (kk : ∀ v h' n', K2 v h' n' → ax_T l G cy b R own nm cc nL ret K mc ms (pc + 3) lv (v.toList ++ st) h' n' (cells + mc2) (slots + ms2)) : ax_T l G cy b R own nm cc nL ret K mc ms pc lv st0 h n cells slots := by
  intro p e s m args below meth c Q H locs ls E hK hR hRp hS hb hl
  have hts := E.2.2.2.2.1
  subst hst
  have e1 : (as.reverse ++ .ref o :: st).map (ax_v b) = (as.map (ax_v b)).reverse ++ .ref (b + o) :: st.map (ax_v b) := by rw [List.map_append, List.map_reverse]; rfl
  have hrec : ∃ cellB : Cell, H[b + o]? = some cellB ∧ cellB.vm.isStatics = false ∧ s.vm.findClass y.cls = some cellB.cls := by
    obtain ⟨q', h1, cell, g1, g2, g3, -⟩ := hRp.2 o _ ho
    refine ⟨cell, g1, by rw [g3]; rfl, ?_⟩
    rw [g2, ← hq]
    exact (hK.1.1 ci q hc).2.1
  have hp : PreV s H y.cls (b + o) (ax_Pc G cy b n h (.ref o :: as)) (as.map (ax_v b)) := ⟨ax_blind, hrec, fun U hU hW => ax_pre (as := .ref o :: as) hK hRp hS hb U hU hW⟩
  rcases hlink with hlink | ⟨host, hlink⟩
  · have cw : CallW R s args own y.cls index y bytes maxL ret2 (Cond.code y bytes maxL ret2 :: ax_Tb) (ax_rm d mc2 ms2) mc2 ms2 as.length := ⟨callB_of as.length hts (ax_good hcode) rfl rfl rfl (hts _ hini) (hts _ hlink) hde hRm, hts _ hinst, hts _ hsel⟩
    exact ax_after (a := #[]) E hK hR hS hb hl (va_runV ⟨E.1, E.2.1, E.2.2.1, E.2.2.2.1, hts⟩ hC cw hp rfl (by rw [List.length_map]) hl.1 e1 (lv_room (ax_h8 b h8)) hd hm) kk
  · have cw : va_CN R s args own index y host bytes maxL ret2 (Cond.code y bytes maxL ret2 :: ax_Tb) (ax_rm d mc2 ms2) mc2 ms2 as.length ∧ (Cond.instanceMethod y).before args s = true ∧ (Cond.selects y.cls y y).before args s = true := ⟨va_cnB as.length hts (ax_good hcode) rfl rfl rfl (hK.2.1 _ hlink) (hts _ hini) hde hRm, hts _ hinst, hts _ hsel⟩
    exact ax_after (a := #[]) E hK hR hS hb hl (va_runVN ⟨E.1, E.2.1, E.2.2.1, E.2.2.2.1, hts⟩ hC cw hp rfl (by rw [List.length_map]) hl.1 e1 (lv_room (ax_h8 b h8)) hd hm) kk
theorem xt_callI {o : Nat} (hC : ax_CM l G cy b y bytes maxL none d mc2 ms2 (.ref o :: as) h n K2) (hnm : y.name = "<init>") (hcode : Cond.code y bytes maxL none ∈ ax_Tb) (hini : Cond.initialized y.cls ∈ ax_Tb) (hinst : Cond.instanceMethod y ∈ ax_Tb) (hlink : Cond.methodLink own index y ∈ ax_Tb ∨ ∃ host, Cond.methodLinkNest own index y host ∈ ax_Nw) (hde : y.cls ≠ "java/lang/invoke/MethodHandle" ∧ y.cls ≠ "java/lang/invoke/VarHandle" ∧ (parseMethodDescriptor y.desc).map (fun d => d.parameters.length) = some as.length) (hRm : d + 1 ≤ R.frames ∧ 8 + (maxL + 11) + 34 * d ≤ R.locals) (hm : cells + mc2 ≤ R.cells ∧ slots + ms2 ≤ R.slots) (h8 : (st.map fun v => v.category).sum ≤ 8) (hst : st0 = as.reverse ++ .ref o :: st) (hd : decode cc pc = .ok (.invokespecial index, 3)) (kk : ∀ v h' n', K2 v h' n' → ax_T l G cy b R own nm cc nL ret K mc ms (pc + 3) lv (v.toList ++ st) h' n' (cells + mc2) (slots + ms2)) : ax_T l G cy b R own nm cc nL ret K mc ms pc lv st0 h n cells slots := by
  intro p e s m args below meth c Q H locs ls E hK hR hRp hS hb hl
  have hts := E.2.2.2.2.1
  subst hst
  have e1 : (as.reverse ++ .ref o :: st).map (ax_v b) = (as.map (ax_v b)).reverse ++ .ref (b + o) :: st.map (ax_v b) := by rw [List.map_append, List.map_reverse]; rfl
  have hp : PreS s H (ax_Pc G cy b n h (.ref o :: as)) (.ref (b + o) :: as.map (ax_v b)) := ⟨ax_blind, fun U hU hW => ax_pre (as := .ref o :: as) hK hRp hS hb U hU hW⟩
  rcases hlink with hlink | ⟨host, hlink⟩
  · have cw : CallB R s args own index y bytes maxL none (Cond.code y bytes maxL none :: ax_Tb) (ax_rm d mc2 ms2) mc2 ms2 as.length ∧ y.name = "<init>" ∧ (Cond.instanceMethod y).before args s = true := ⟨callB_of as.length hts (ax_good hcode) rfl rfl rfl (hts _ hini) (hts _ hlink) hde hRm, hnm, hts _ hinst⟩
    exact ax_after (a := #[]) E hK hR hS hb hl (va_runI ⟨E.1, E.2.1, E.2.2.1, E.2.2.2.1, hts⟩ hC cw hp rfl (by rw [List.length_map]) hl.1 e1 (lv_room (ax_h8 b h8)) hd hm) kk
  · have cw : va_CN R s args own index y host bytes maxL none (Cond.code y bytes maxL none :: ax_Tb) (ax_rm d mc2 ms2) mc2 ms2 as.length ∧ y.name = "<init>" ∧ (Cond.instanceMethod y).before args s = true := ⟨va_cnB as.length hts (ax_good hcode) rfl rfl rfl (hK.2.1 _ hlink) (hts _ hini) hde hRm, hnm, hts _ hinst⟩
    exact ax_after (a := #[]) E hK hR hS hb hl (va_runIN ⟨E.1, E.2.1, E.2.2.1, E.2.2.2.1, hts⟩ hC cw hp rfl (by rw [List.length_map]) hl.1 e1 (lv_room (ax_h8 b h8)) hd hm) kk
/-- Object.<init> -/
theorem xt_objI {o : Nat} (hlink : Cond.methodLink own index objectInit ∈ ax_Tb) (hinst : Cond.instanceMethod objectInit ∈ ax_Tb) (hcode : Cond.code objectInit ⟨#[0xb1]⟩ 1 none ∈ ax_Tb) (hRm : 1 ≤ R.frames ∧ 20 ≤ R.locals) (h8 : (st.map fun v => v.category).sum ≤ 8) (hd : decode cc pc = .ok (.invokespecial index, 3)) (k : ax_T l G cy b R own nm cc nL ret K mc ms (pc + 3) lv st h n cells slots) : ax_T l G cy b R own nm cc nL ret K mc ms pc lv (.ref o :: st) h n cells slots := by
  intro p e s m args below meth c Q H locs ls E hK hR hRp hS hb hl
  have hts := E.2.2.2.2.1
  refine W.objInit E.1 E.2.1 E.2.2.2.1 (hts _ hlink) (hts _ hinst) (hts _ hcode) rfl (by rw [E.2.2.1]; exact hl.1) rfl hd hRm.1 ?_ (k p e s m args below meth c Q H locs ls E hK hR hRp hS hb hl)
  have := ax_h8 b h8
  have h2 := hRm.2
  show 2 * 0 + _ + 12 ≤ _
  omega
theorem xt_mmax {x y : Int32} (hlink : Cond.methodLink own index Lib.Math.max.name ∈ ax_Tb) (hstat : Cond.static Lib.Math.max.name ∈ ax_Tb) (hini : Cond.initialized "java/lang/Math" ∈ ax_Tb) (hcode : Cond.code Lib.Math.max.name Lib.Math.max.code 2 (some .int) ∈ ax_Tb) (hRm : 1 ≤ R.frames ∧ 21 ≤ R.locals ∧ cells ≤ R.cells ∧ slots ≤ R.slots) (h8 : (st.map fun v => v.category).sum ≤ 8) (hd : decode cc pc = .ok (.invokestatic index, 3)) (k : ax_T l G cy b R own nm cc nL ret K mc ms (pc + 3) lv (.int (if x < y then y else x) :: st) h n cells slots) : ax_T l G cy b R own nm cc nL ret K mc ms pc lv (.int y :: .int x :: st) h n cells slots := by
  intro p e s m args below meth c Q H locs ls E hK hR hRp hS hb hl
  have hts := E.2.2.2.2.1
  have h9 := ax_h8 b h8
  have h2 := hRm.2.1
  exact va_mmax E.1 E.2.1 (by rw [E.2.2.1]; exact hl.1.symm) E.2.2.2.1 (hts _ hlink) (hts _ hstat) (hts _ hini) (hts _ hcode) hRm.1 (by omega) hRm.2.2.1 hRm.2.2.2 hd (k p e s m args below meth c Q H locs ls E hK hR hRp hS hb hl)
theorem xt_mmin {x y : Int32} (hlink : Cond.methodLink own index Lib.Math.min.name ∈ ax_Tb) (hstat : Cond.static Lib.Math.min.name ∈ ax_Tb) (hini : Cond.initialized "java/lang/Math" ∈ ax_Tb) (hcode : Cond.code Lib.Math.min.name Lib.Math.min.code 2 (some .int) ∈ ax_Tb) (hRm : 1 ≤ R.frames ∧ 21 ≤ R.locals ∧ cells ≤ R.cells ∧ slots ≤ R.slots) (h8 : (st.map fun v => v.category).sum ≤ 8) (hd : decode cc pc = .ok (.invokestatic index, 3)) (k : ax_T l G cy b R own nm cc nL ret K mc ms (pc + 3) lv (.int (if y < x then y else x) :: st) h n cells slots) : ax_T l G cy b R own nm cc nL ret K mc ms pc lv (.int y :: .int x :: st) h n cells slots := by
  intro p e s m args below meth c Q H locs ls E hK hR hRp hS hb hl
  have hts := E.2.2.2.2.1
  have h9 := ax_h8 b h8
  have h2 := hRm.2.1
  exact va_mmin E.1 E.2.1 (by rw [E.2.2.1]; exact hl.1.symm) E.2.2.2.1 (hts _ hlink) (hts _ hstat) (hts _ hini) (hts _ hcode) hRm.1 (by omega) hRm.2.2.1 hRm.2.2.2 hd (k p e s m args below meth c Q H locs ls E hK hR hRp hS hb hl)
theorem xt_mabs {x y : Int32} (hlink : Cond.methodLink own index Lib.Math.abs.name ∈ ax_Tb) (hstat : Cond.static Lib.Math.abs.name ∈ ax_Tb) (hini : Cond.initialized "java/lang/Math" ∈ ax_Tb) (hcode : Cond.code Lib.Math.abs.name Lib.Math.abs.code 1 (some .int) ∈ ax_Tb) (hRm : 1 ≤ R.frames ∧ 21 ≤ R.locals ∧ cells ≤ R.cells ∧ slots ≤ R.slots) (h8 : (st.map fun v => v.category).sum ≤ 8) (hd : decode cc pc = .ok (.invokestatic index, 3)) (k : ax_T l G cy b R own nm cc nL ret K mc ms (pc + 3) lv (.int (if 0 ≤ x then x else 0 - x) :: st) h n cells slots) : ax_T l G cy b R own nm cc nL ret K mc ms pc lv (.int x :: st) h n cells slots := by
  intro p e s m args below meth c Q H locs ls E hK hR hRp hS hb hl
  have hts := E.2.2.2.2.1
  have h9 := ax_h8 b h8
  have h2 := hRm.2.1
  exact va_mabs E.1 E.2.1 (by rw [E.2.2.1]; exact hl.1.symm) E.2.2.2.1 (hts _ hlink) (hts _ hstat) (hts _ hini) (hts _ hcode) hRm.1 (by omega) hRm.2.2.1 hRm.2.2.2 hd (k p e s m args below meth c Q H locs ls E hK hR hRp hS hb hl)
theorem xt_copyi {i j N M : Nat} {f g : Nat → Int32} {x x2 x3 : Int32} (sp dp len : Nat) (hi : h i = some (ax_I N f)) (hj : h j = some (ax_I M g)) (hx : x = nI sp) (hx2 : x2 = nI dp) (hx3 : x3 = nI len) (hs1 : sp + len ≤ N) (hs2 : dp + len ≤ M) (hN : N < 2 ^ 31 ∧ M < 2 ^ 31)
    (hlink : Cond.methodLink own index arraycopyName ∈ ax_Tb) (hnat : Cond.native arraycopyName ∈ ax_Tb) (hstat : Cond.static arraycopyName ∈ ax_Tb) (hini : Cond.initialized "java/lang/System" ∈ ax_Tb) (hRm : 1 ≤ R.frames ∧ 8 + (nativeFrameWords "java/lang/System" "arraycopy" 5 + 11) ≤ R.locals) (h8 : (st.map fun v => v.category).sum ≤ 8) (hd : decode cc pc = .ok (.invokestatic index, 3))
    (kk : ax_T l G cy b R own nm cc nL ret K mc ms (pc + 3) lv st (hp h j (ax_I M (va_cpy f g sp dp len))) n cells slots) : ax_T l G cy b R own nm cc nL ret K mc ms pc lv (.int x3 :: .int x2 :: .ref j :: .int x :: .ref i :: st) h n cells slots := by
  intro p e s m args below meth c Q H locs ls E hK hR hRp hS hb hl
  have hts := E.2.2.2.2.1
  subst hx; subst hx2; subst hx3
  have c1 : (nI sp).toNatClampNeg = sp := nI_clamp (by omega)
  have c2 : (nI dp).toNatClampNeg = dp := nI_clamp (by omega)
  have c3 : (nI len).toNatClampNeg = len := nI_clamp (by omega)
  have t1 : (nI sp).toInt = (sp : Int) := nI_toInt (by omega)
  have t2 : (nI dp).toInt = (dp : Int) := nI_toInt (by omega)
  have t3 : (nI len).toInt = (len : Int) := nI_toInt (by omega)
  intro T hT X
  have hc0 : H[b + i]? = some (vp_cell (cy.1 0) (N, (.inl f))) := hRp.2 i _ hi
  have hc1 : H[b + j]? = some (vp_cell (cy.1 0) (M, (.inl g))) := hRp.2 j _ hj
  obtain ⟨-, k0, hk0, cm0, hkk0⟩ := (hK.1.2 0 _ rfl).1 N (fun j => .int (f j))
  obtain ⟨-, k1, hk1, cm1, hkk1⟩ := (hK.1.2 0 _ rfl).1 M (fun j => .int (g j))
  have h9 := ax_h8 b h8
  have hr2 := hRm.2
  obtain ⟨vm', X', step⟩ := X.arraycopy E.1 E.2.2.2.1 (hts _ hlink) (hts _ hnat) (hts _ hstat) (hts _ hini) (src := b + i) (dst := b + j) (cs := vp_cell (cy.1 0) (N, (.inl f))) (cd := vp_cell (cy.1 0) (M, (.inl g))) (srcPos := nI sp) (destPos := nI dp) (n := nI len) (by rw [hT]; exact hc0) (by rw [hT]; exact hc1)
    (fun _ h => by cases h) (fun _ h => by cases h) (fun h => by cases h) (fun h => by cases h) hk0 hk1 hkk0 hkk1 (by simp [refKind]) (nI_pos (by omega)) (nI_pos (by omega)) (nI_pos (by omega))
    (by rw [t1, t3]; show ¬ _ > ((arrV (cy.1 0) N (fun j => .int (f j))).slots.size : Int); rw [arrV_size]; omega)
    (by rw [t2, t3]; show ¬ _ > ((arrV (cy.1 0) M (fun j => .int (g j))).slots.size : Int); rw [arrV_size]; omega)
    (fun vm₁ _ q hq => by
      rw [c3] at hq
      have e : (vp_cell (cy.1 0) (N, (.inl f))).slots.getD ((nI sp).toNatClampNeg + q) .null = .int (f (sp + q)) := by
        rw [c1]
        show (arrV (cy.1 0) N (fun j => .int (f j))).slots.getD _ _ = _
        rw [Array.getD_eq_getD_getElem?, arrV_read _ _ (by omega)]
        rfl
      refine ⟨?_, ?_⟩
      · rw [e]; first | rfl | exact rfl
      · rw [e]
        exact trivial)
    (g := F0 m pc ls ((.int (nI len) :: .int (nI dp) :: .ref (b + j) :: .int (nI sp) :: .ref (b + i) :: st.map (ax_v b)))) rfl (by rw [E.2.2.1]; exact hl.1) (rest := st.map (ax_v b)) rfl (by rw [E.2.1]; exact hd) hRm.1 (by show 2 * 0 + _ + _ ≤ _; omega)
  have e1 : copied (vp_cell (cy.1 0) (N, (.inl f))) (vp_cell (cy.1 0) (M, (.inl g))) (nI sp) (nI dp) (nI len) = vp_cell (cy.1 0) (M, (.inl (va_cpy f g sp dp len))) := by
    rw [show va_cpy f g sp dp len = va_cpy f g (nI sp).toNatClampNeg (nI dp).toNatClampNeg (nI len).toNatClampNeg by rw [c1, c2, c3]]
    exact va_copied (fun z => .int z) (cy.1 0) (cy.1 0) f g (by rw [c1, c3]; exact hs1)
  rw [e1] at X' step
  have hlt : b + j < H.size := (Array.getElem?_eq_some_iff.mp hc1).1
  have hheap : ((T.setVm vm').setCell (b + j) (vp_cell (cy.1 0) (M, (.inl (va_cpy f g sp dp len))))).heap = H.setIfInBounds (b + j) (vp_cell (cy.1 0) (M, (.inl (va_cpy f g sp dp len)))) := by rw [← hT]; rfl
  have oq : ∀ q : Nat, q ≠ b + j → (H.setIfInBounds (b + j) (vp_cell (cy.1 0) (M, (.inl (va_cpy f g sp dp len)))))[q]? = H[q]? := fun q hq => by simp [Array.getElem?_setIfInBounds, Ne.symm hq]
  obtain ⟨t, a1, b1⟩ := kk p e s m args below meth c Q _ _ ls E hK hR (hRp.set (H1 := H.setIfInBounds (b + j) (vp_cell (cy.1 0) (M, (.inl (va_cpy f g sp dp len))))) (by simp) (show (H.setIfInBounds (b + j) _)[b + j]? = some _ by simp [Array.getElem?_setIfInBounds, hlt]; rfl) oq)
    ⟨by simp; exact hS.1, fun q g1 g2 => by
      rw [oq q (fun e => g2 (by rw [e]; omega))]
      exact hS.2.1 q g1 g2, fun q hq => by
      rcases List.mem_append.mp hq with h | h
      · exact hS.2.2 q h
      · obtain ⟨z, -, hz⟩ := List.mem_map.mp h
        rw [← hz]
        show b ≤ b + j
        omega⟩ hb hl _ hheap X'
  exact ⟨t, step t a1, b1⟩
theorem xt_copyl {i j N M : Nat} {f g : Nat → Int64} {x x2 x3 : Int32} (sp dp len : Nat) (hi : h i = some (ax_L N f)) (hj : h j = some (ax_L M g)) (hx : x = nI sp) (hx2 : x2 = nI dp) (hx3 : x3 = nI len) (hs1 : sp + len ≤ N) (hs2 : dp + len ≤ M) (hN : N < 2 ^ 31 ∧ M < 2 ^ 31)
    (hlink : Cond.methodLink own index arraycopyName ∈ ax_Tb) (hnat : Cond.native arraycopyName ∈ ax_Tb) (hstat : Cond.static arraycopyName ∈ ax_Tb) (hini : Cond.initialized "java/lang/System" ∈ ax_Tb) (hRm : 1 ≤ R.frames ∧ 8 + (nativeFrameWords "java/lang/System" "arraycopy" 5 + 11) ≤ R.locals) (h8 : (st.map fun v => v.category).sum ≤ 8) (hd : decode cc pc = .ok (.invokestatic index, 3))
    (kk : ax_T l G cy b R own nm cc nL ret K mc ms (pc + 3) lv st (hp h j (ax_L M (va_cpy f g sp dp len))) n cells slots) : ax_T l G cy b R own nm cc nL ret K mc ms pc lv (.int x3 :: .int x2 :: .ref j :: .int x :: .ref i :: st) h n cells slots := by
  intro p e s m args below meth c Q H locs ls E hK hR hRp hS hb hl
  have hts := E.2.2.2.2.1
  subst hx; subst hx2; subst hx3
  have c1 : (nI sp).toNatClampNeg = sp := nI_clamp (by omega)
  have c2 : (nI dp).toNatClampNeg = dp := nI_clamp (by omega)
  have c3 : (nI len).toNatClampNeg = len := nI_clamp (by omega)
  have t1 : (nI sp).toInt = (sp : Int) := nI_toInt (by omega)
  have t2 : (nI dp).toInt = (dp : Int) := nI_toInt (by omega)
  have t3 : (nI len).toInt = (len : Int) := nI_toInt (by omega)
  intro T hT X
  have hc0 : H[b + i]? = some (vp_cell (cy.1 1) (N, (.inr (.inl f)))) := hRp.2 i _ hi
  have hc1 : H[b + j]? = some (vp_cell (cy.1 1) (M, (.inr (.inl g)))) := hRp.2 j _ hj
  obtain ⟨-, k0, hk0, cm0, hkk0⟩ := (hK.1.2 1 _ rfl).1 N (fun j => .long (f j))
  obtain ⟨-, k1, hk1, cm1, hkk1⟩ := (hK.1.2 1 _ rfl).1 M (fun j => .long (g j))
  have h9 := ax_h8 b h8
  have hr2 := hRm.2
  obtain ⟨vm', X', step⟩ := X.arraycopy E.1 E.2.2.2.1 (hts _ hlink) (hts _ hnat) (hts _ hstat) (hts _ hini) (src := b + i) (dst := b + j) (cs := vp_cell (cy.1 1) (N, (.inr (.inl f)))) (cd := vp_cell (cy.1 1) (M, (.inr (.inl g)))) (srcPos := nI sp) (destPos := nI dp) (n := nI len) (by rw [hT]; exact hc0) (by rw [hT]; exact hc1)
    (fun _ h => by cases h) (fun _ h => by cases h) (fun h => by cases h) (fun h => by cases h) hk0 hk1 hkk0 hkk1 (by simp [refKind]) (nI_pos (by omega)) (nI_pos (by omega)) (nI_pos (by omega))
    (by rw [t1, t3]; show ¬ _ > ((arrV (cy.1 1) N (fun j => .long (f j))).slots.size : Int); rw [arrV_size]; omega)
    (by rw [t2, t3]; show ¬ _ > ((arrV (cy.1 1) M (fun j => .long (g j))).slots.size : Int); rw [arrV_size]; omega)
    (fun vm₁ _ q hq => by
      rw [c3] at hq
      have e : (vp_cell (cy.1 1) (N, (.inr (.inl f)))).slots.getD ((nI sp).toNatClampNeg + q) .null = .long (f (sp + q)) := by
        rw [c1]
        show (arrV (cy.1 1) N (fun j => .long (f j))).slots.getD _ _ = _
        rw [Array.getD_eq_getD_getElem?, arrV_read _ _ (by omega)]
        rfl
      refine ⟨?_, ?_⟩
      · rw [e]; first | rfl | exact rfl
      · rw [e]
        exact trivial)
    (g := F0 m pc ls ((.int (nI len) :: .int (nI dp) :: .ref (b + j) :: .int (nI sp) :: .ref (b + i) :: st.map (ax_v b)))) rfl (by rw [E.2.2.1]; exact hl.1) (rest := st.map (ax_v b)) rfl (by rw [E.2.1]; exact hd) hRm.1 (by show 2 * 0 + _ + _ ≤ _; omega)
  have e1 : copied (vp_cell (cy.1 1) (N, (.inr (.inl f)))) (vp_cell (cy.1 1) (M, (.inr (.inl g)))) (nI sp) (nI dp) (nI len) = vp_cell (cy.1 1) (M, (.inr (.inl (va_cpy f g sp dp len)))) := by
    rw [show va_cpy f g sp dp len = va_cpy f g (nI sp).toNatClampNeg (nI dp).toNatClampNeg (nI len).toNatClampNeg by rw [c1, c2, c3]]
    exact va_copied (fun z => .long z) (cy.1 1) (cy.1 1) f g (by rw [c1, c3]; exact hs1)
  rw [e1] at X' step
  have hlt : b + j < H.size := (Array.getElem?_eq_some_iff.mp hc1).1
  have hheap : ((T.setVm vm').setCell (b + j) (vp_cell (cy.1 1) (M, (.inr (.inl (va_cpy f g sp dp len)))))).heap = H.setIfInBounds (b + j) (vp_cell (cy.1 1) (M, (.inr (.inl (va_cpy f g sp dp len))))) := by rw [← hT]; rfl
  have oq : ∀ q : Nat, q ≠ b + j → (H.setIfInBounds (b + j) (vp_cell (cy.1 1) (M, (.inr (.inl (va_cpy f g sp dp len))))))[q]? = H[q]? := fun q hq => by simp [Array.getElem?_setIfInBounds, Ne.symm hq]
  obtain ⟨t, a1, b1⟩ := kk p e s m args below meth c Q _ _ ls E hK hR (hRp.set (H1 := H.setIfInBounds (b + j) (vp_cell (cy.1 1) (M, (.inr (.inl (va_cpy f g sp dp len)))))) (by simp) (show (H.setIfInBounds (b + j) _)[b + j]? = some _ by simp [Array.getElem?_setIfInBounds, hlt]; rfl) oq)
    ⟨by simp; exact hS.1, fun q g1 g2 => by
      rw [oq q (fun e => g2 (by rw [e]; omega))]
      exact hS.2.1 q g1 g2, fun q hq => by
      rcases List.mem_append.mp hq with h | h
      · exact hS.2.2 q h
      · obtain ⟨z, -, hz⟩ := List.mem_map.mp h
        rw [← hz]
        show b ≤ b + j
        omega⟩ hb hl _ hheap X'
  exact ⟨t, step t a1, b1⟩
/-- posts: what is answered and how the heap is behind it, told outright -/
def ki (r : Int32) (h2 : ax_H) (n2 : Nat) : Option Value → ax_H → Nat → Prop := fun v h' n' => v = some (.int r) ∧ h' = h2 ∧ n' = n2
def kl (r : Int64) (h2 : ax_H) (n2 : Nat) : Option Value → ax_H → Nat → Prop := fun v h' n' => v = some (.long r) ∧ h' = h2 ∧ n' = n2
def kv (h2 : ax_H) (n2 : Nat) : Option Value → ax_H → Nat → Prop := fun v h' n' => v = none ∧ h' = h2 ∧ n' = n2
theorem ki_k {r : Int32} {h2 : ax_H} {n2 c2 s2 : Nat} (k : ax_T l G cy b R own nm cc nL ret K mc ms pc lv (.int r :: st) h2 n2 c2 s2) : ∀ v h' n', ki r h2 n2 v h' n' → ax_T l G cy b R own nm cc nL ret K mc ms pc lv (v.toList ++ st) h' n' c2 s2 := by
  rintro v h' n' ⟨rfl, rfl, rfl⟩; exact k
theorem kl_k {r : Int64} {h2 : ax_H} {n2 c2 s2 : Nat} (k : ax_T l G cy b R own nm cc nL ret K mc ms pc lv (.long r :: st) h2 n2 c2 s2) : ∀ v h' n', kl r h2 n2 v h' n' → ax_T l G cy b R own nm cc nL ret K mc ms pc lv (v.toList ++ st) h' n' c2 s2 := by
  rintro v h' n' ⟨rfl, rfl, rfl⟩; exact k
theorem kv_k {h2 : ax_H} {n2 c2 s2 : Nat} (k : ax_T l G cy b R own nm cc nL ret K mc ms pc lv st h2 n2 c2 s2) : ∀ v h' n', kv h2 n2 v h' n' → ax_T l G cy b R own nm cc nL ret K mc ms pc lv (v.toList ++ st) h' n' c2 s2 := by
  rintro v h' n' ⟨rfl, rfl, rfl⟩; exact k
end AXC
end
