-- ===== PART A: goes FIRST, ahead of the names: the tables' words, and 'selects' of the private methods out of them =====
/-- a private method of a class that the tables say can be made, by its rows of tables_1 -/
def lw_okq (q : MethodName × Nat) : Prop := (q.1.cls ≠ "java/lang/invoke/MethodHandle" ∧ q.1.cls ≠ "java/lang/invoke/VarHandle") ∧ Cond.instantiable q.1.cls q.2 ∈ tables_1 ∧ Cond.privateMethod q.1 ∈ tables_1 ∧ Cond.instanceMethod q.1 ∈ tables_1
theorem lw_p0 : lw_okq (⟨"PulsedAxes$Piece", "remaining", "()I"⟩, 10) := ⟨⟨by decide +kernel, by decide +kernel⟩, List.mem_of_getElem? (i := 33) (by decide +kernel), List.mem_of_getElem? (i := 259) (by decide +kernel), List.mem_of_getElem? (i := 260) (by decide +kernel)⟩
theorem lw_p1 : lw_okq (⟨"PulsedAxes$Piece", "total", "()I"⟩, 10) := ⟨⟨by decide +kernel, by decide +kernel⟩, List.mem_of_getElem? (i := 33) (by decide +kernel), List.mem_of_getElem? (i := 263) (by decide +kernel), List.mem_of_getElem? (i := 264) (by decide +kernel)⟩
theorem lw_p2 : lw_okq (⟨"PulsedAxes$Piece", "isArc", "()Z"⟩, 10) := ⟨⟨by decide +kernel, by decide +kernel⟩, List.mem_of_getElem? (i := 33) (by decide +kernel), List.mem_of_getElem? (i := 267) (by decide +kernel), List.mem_of_getElem? (i := 268) (by decide +kernel)⟩
theorem lw_p3 : lw_okq (⟨"PulsedAxes$Reader", "append", "(C)Z"⟩, 6) := ⟨⟨by decide +kernel, by decide +kernel⟩, List.mem_of_getElem? (i := 159) (by decide +kernel), List.mem_of_getElem? (i := 279) (by decide +kernel), List.mem_of_getElem? (i := 280) (by decide +kernel)⟩
theorem lw_p4 : lw_okq (⟨"PulsedAxes$Reader", "readPlan", "()Z"⟩, 6) := ⟨⟨by decide +kernel, by decide +kernel⟩, List.mem_of_getElem? (i := 159) (by decide +kernel), List.mem_of_getElem? (i := 288) (by decide +kernel), List.mem_of_getElem? (i := 289) (by decide +kernel)⟩
theorem lw_p5 : lw_okq (⟨"PulsedAxes$Reader", "atEnd", "()Z"⟩, 6) := ⟨⟨by decide +kernel, by decide +kernel⟩, List.mem_of_getElem? (i := 159) (by decide +kernel), List.mem_of_getElem? (i := 292) (by decide +kernel), List.mem_of_getElem? (i := 293) (by decide +kernel)⟩
theorem lw_p6 : lw_okq (⟨"PulsedAxes$Reader", "readPiece", "(I)Z"⟩, 6) := ⟨⟨by decide +kernel, by decide +kernel⟩, List.mem_of_getElem? (i := 159) (by decide +kernel), List.mem_of_getElem? (i := 296) (by decide +kernel), List.mem_of_getElem? (i := 297) (by decide +kernel)⟩
theorem lw_p7 : lw_okq (⟨"PulsedAxes$Reader", "readSign", "(C)Z"⟩, 6) := ⟨⟨by decide +kernel, by decide +kernel⟩, List.mem_of_getElem? (i := 159) (by decide +kernel), List.mem_of_getElem? (i := 387) (by decide +kernel), List.mem_of_getElem? (i := 388) (by decide +kernel)⟩
theorem lw_p8 : lw_okq (⟨"PulsedAxes$Reader", "readNumber", "(I)Z"⟩, 6) := ⟨⟨by decide +kernel, by decide +kernel⟩, List.mem_of_getElem? (i := 159) (by decide +kernel), List.mem_of_getElem? (i := 391) (by decide +kernel), List.mem_of_getElem? (i := 392) (by decide +kernel)⟩
theorem lw_p9 : lw_okq (⟨"PulsedAxes$Reader", "digitIsNext", "()Z"⟩, 6) := ⟨⟨by decide +kernel, by decide +kernel⟩, List.mem_of_getElem? (i := 159) (by decide +kernel), List.mem_of_getElem? (i := 395) (by decide +kernel), List.mem_of_getElem? (i := 396) (by decide +kernel)⟩
theorem lw_p10 : lw_okq (⟨"PulsedAxes$Piece", "tell", "(IIII)V"⟩, 10) := ⟨⟨by decide +kernel, by decide +kernel⟩, List.mem_of_getElem? (i := 33) (by decide +kernel), List.mem_of_getElem? (i := 408) (by decide +kernel), List.mem_of_getElem? (i := 409) (by decide +kernel)⟩
theorem lw_p11 : lw_okq (⟨"PulsedAxes$State", "clear", "()V"⟩, 7) := ⟨⟨by decide +kernel, by decide +kernel⟩, List.mem_of_getElem? (i := 26) (by decide +kernel), List.mem_of_getElem? (i := 414) (by decide +kernel), List.mem_of_getElem? (i := 415) (by decide +kernel)⟩
theorem lw_p12 : lw_okq (⟨"PulsedAxes$State", "addLast", "(IIII)V"⟩, 7) := ⟨⟨by decide +kernel, by decide +kernel⟩, List.mem_of_getElem? (i := 26) (by decide +kernel), List.mem_of_getElem? (i := 418) (by decide +kernel), List.mem_of_getElem? (i := 419) (by decide +kernel)⟩
theorem lw_p13 : lw_okq (⟨"PulsedAxes$State", "remaining", "()I"⟩, 7) := ⟨⟨by decide +kernel, by decide +kernel⟩, List.mem_of_getElem? (i := 26) (by decide +kernel), List.mem_of_getElem? (i := 428) (by decide +kernel), List.mem_of_getElem? (i := 429) (by decide +kernel)⟩
theorem lw_p14 : lw_okq (⟨"PulsedAxes$State", "kinds", "()I"⟩, 7) := ⟨⟨by decide +kernel, by decide +kernel⟩, List.mem_of_getElem? (i := 26) (by decide +kernel), List.mem_of_getElem? (i := 433) (by decide +kernel), List.mem_of_getElem? (i := 434) (by decide +kernel)⟩
theorem lw_p15 : lw_okq (⟨"PulsedAxes", "newcomerRefusal", "(IIII)I"⟩, 9) := ⟨⟨by decide +kernel, by decide +kernel⟩, List.mem_of_getElem? (i := 18) (by decide +kernel), List.mem_of_getElem? (i := 441) (by decide +kernel), List.mem_of_getElem? (i := 442) (by decide +kernel)⟩
def lw_privs_1 : List (MethodName × Nat) := [(⟨"PulsedAxes$Piece", "remaining", "()I"⟩, 10), (⟨"PulsedAxes$Piece", "total", "()I"⟩, 10), (⟨"PulsedAxes$Piece", "isArc", "()Z"⟩, 10), (⟨"PulsedAxes$Reader", "append", "(C)Z"⟩, 6), (⟨"PulsedAxes$Reader", "readPlan", "()Z"⟩, 6), (⟨"PulsedAxes$Reader", "atEnd", "()Z"⟩, 6), (⟨"PulsedAxes$Reader", "readPiece", "(I)Z"⟩, 6), (⟨"PulsedAxes$Reader", "readSign", "(C)Z"⟩, 6), (⟨"PulsedAxes$Reader", "readNumber", "(I)Z"⟩, 6), (⟨"PulsedAxes$Reader", "digitIsNext", "()Z"⟩, 6), (⟨"PulsedAxes$Piece", "tell", "(IIII)V"⟩, 10), (⟨"PulsedAxes$State", "clear", "()V"⟩, 7), (⟨"PulsedAxes$State", "addLast", "(IIII)V"⟩, 7), (⟨"PulsedAxes$State", "remaining", "()I"⟩, 7), (⟨"PulsedAxes$State", "kinds", "()I"⟩, 7), (⟨"PulsedAxes", "newcomerRefusal", "(IIII)I"⟩, 9)]
theorem lw_r1 : ∀ q ∈ lw_privs_1, lw_okq q := List.forall_mem_cons.mpr ⟨lw_p0, List.forall_mem_cons.mpr ⟨lw_p1, List.forall_mem_cons.mpr ⟨lw_p2, List.forall_mem_cons.mpr ⟨lw_p3, List.forall_mem_cons.mpr ⟨lw_p4, List.forall_mem_cons.mpr ⟨lw_p5, List.forall_mem_cons.mpr ⟨lw_p6, List.forall_mem_cons.mpr ⟨lw_p7, List.forall_mem_cons.mpr ⟨lw_p8, List.forall_mem_cons.mpr ⟨lw_p9, List.forall_mem_cons.mpr ⟨lw_p10, List.forall_mem_cons.mpr ⟨lw_p11, List.forall_mem_cons.mpr ⟨lw_p12, List.forall_mem_cons.mpr ⟨lw_p13, List.forall_mem_cons.mpr ⟨lw_p14, List.forall_mem_cons.mpr ⟨lw_p15, fun _ h => absurd h List.not_mem_nil⟩⟩⟩⟩⟩⟩⟩⟩⟩⟩⟩⟩⟩⟩⟩⟩
theorem lw_p16 : lw_okq (⟨"PulsedAxes$Past", "keep", "(LPulsedAxes$State;)V"⟩, 2) := ⟨⟨by decide +kernel, by decide +kernel⟩, List.mem_of_getElem? (i := 113) (by decide +kernel), List.mem_of_getElem? (i := 446) (by decide +kernel), List.mem_of_getElem? (i := 447) (by decide +kernel)⟩
theorem lw_p17 : lw_okq (⟨"PulsedAxes$Past", "forgetOldest", "()V"⟩, 2) := ⟨⟨by decide +kernel, by decide +kernel⟩, List.mem_of_getElem? (i := 113) (by decide +kernel), List.mem_of_getElem? (i := 450) (by decide +kernel), List.mem_of_getElem? (i := 451) (by decide +kernel)⟩
theorem lw_p18 : lw_okq (⟨"PulsedAxes$State", "copyFrom", "(LPulsedAxes$State;)V"⟩, 7) := ⟨⟨by decide +kernel, by decide +kernel⟩, List.mem_of_getElem? (i := 26) (by decide +kernel), List.mem_of_getElem? (i := 454) (by decide +kernel), List.mem_of_getElem? (i := 455) (by decide +kernel)⟩
theorem lw_p19 : lw_okq (⟨"PulsedAxes$Piece", "copyFrom", "(LPulsedAxes$Piece;)V"⟩, 10) := ⟨⟨by decide +kernel, by decide +kernel⟩, List.mem_of_getElem? (i := 33) (by decide +kernel), List.mem_of_getElem? (i := 461) (by decide +kernel), List.mem_of_getElem? (i := 462) (by decide +kernel)⟩
theorem lw_p20 : lw_okq (⟨"PulsedAxes$State", "addFirst", "(IIII)V"⟩, 7) := ⟨⟨by decide +kernel, by decide +kernel⟩, List.mem_of_getElem? (i := 26) (by decide +kernel), List.mem_of_getElem? (i := 469) (by decide +kernel), List.mem_of_getElem? (i := 470) (by decide +kernel)⟩
theorem lw_p21 : lw_okq (⟨"PulsedAxes$State", "removeAll", "(I)I"⟩, 7) := ⟨⟨by decide +kernel, by decide +kernel⟩, List.mem_of_getElem? (i := 26) (by decide +kernel), List.mem_of_getElem? (i := 478) (by decide +kernel), List.mem_of_getElem? (i := 479) (by decide +kernel)⟩
theorem lw_p22 : lw_okq (⟨"PulsedAxes$State", "removeAt", "(I)V"⟩, 7) := ⟨⟨by decide +kernel, by decide +kernel⟩, List.mem_of_getElem? (i := 26) (by decide +kernel), List.mem_of_getElem? (i := 482) (by decide +kernel), List.mem_of_getElem? (i := 483) (by decide +kernel)⟩
theorem lw_p23 : lw_okq (⟨"PulsedAxes", "doSteps", "(I)I"⟩, 9) := ⟨⟨by decide +kernel, by decide +kernel⟩, List.mem_of_getElem? (i := 18) (by decide +kernel), List.mem_of_getElem? (i := 498) (by decide +kernel), List.mem_of_getElem? (i := 499) (by decide +kernel)⟩
theorem lw_p24 : lw_okq (⟨"PulsedAxes$Walk", "begin", "()V"⟩, 6) := ⟨⟨by decide +kernel, by decide +kernel⟩, List.mem_of_getElem? (i := 130) (by decide +kernel), List.mem_of_getElem? (i := 502) (by decide +kernel), List.mem_of_getElem? (i := 503) (by decide +kernel)⟩
theorem lw_p25 : lw_okq (⟨"PulsedAxes$Walk", "advance", "()Z"⟩, 6) := ⟨⟨by decide +kernel, by decide +kernel⟩, List.mem_of_getElem? (i := 130) (by decide +kernel), List.mem_of_getElem? (i := 508) (by decide +kernel), List.mem_of_getElem? (i := 509) (by decide +kernel)⟩
theorem lw_p26 : lw_okq (⟨"PulsedAxes$Walk", "takeNext", "()Z"⟩, 6) := ⟨⟨by decide +kernel, by decide +kernel⟩, List.mem_of_getElem? (i := 130) (by decide +kernel), List.mem_of_getElem? (i := 512) (by decide +kernel), List.mem_of_getElem? (i := 513) (by decide +kernel)⟩
theorem lw_p27 : lw_okq (⟨"PulsedAxes$Piece", "advance", "([I)V"⟩, 10) := ⟨⟨by decide +kernel, by decide +kernel⟩, List.mem_of_getElem? (i := 33) (by decide +kernel), List.mem_of_getElem? (i := 516) (by decide +kernel), List.mem_of_getElem? (i := 517) (by decide +kernel)⟩
theorem lw_p28 : lw_okq (⟨"PulsedAxes$Piece", "advanceArc", "([I)V"⟩, 10) := ⟨⟨by decide +kernel, by decide +kernel⟩, List.mem_of_getElem? (i := 33) (by decide +kernel), List.mem_of_getElem? (i := 520) (by decide +kernel), List.mem_of_getElem? (i := 521) (by decide +kernel)⟩
theorem lw_p29 : lw_okq (⟨"PulsedAxes$Piece", "offCircle", "(II)I"⟩, 10) := ⟨⟨by decide +kernel, by decide +kernel⟩, List.mem_of_getElem? (i := 33) (by decide +kernel), List.mem_of_getElem? (i := 527) (by decide +kernel), List.mem_of_getElem? (i := 528) (by decide +kernel)⟩
theorem lw_p30 : lw_okq (⟨"PulsedAxes$Piece", "advanceEven", "([I)V"⟩, 10) := ⟨⟨by decide +kernel, by decide +kernel⟩, List.mem_of_getElem? (i := 33) (by decide +kernel), List.mem_of_getElem? (i := 531) (by decide +kernel), List.mem_of_getElem? (i := 532) (by decide +kernel)⟩
theorem lw_p31 : lw_okq (⟨"PulsedAxes$Piece", "gone", "(II)I"⟩, 10) := ⟨⟨by decide +kernel, by decide +kernel⟩, List.mem_of_getElem? (i := 33) (by decide +kernel), List.mem_of_getElem? (i := 535) (by decide +kernel), List.mem_of_getElem? (i := 536) (by decide +kernel)⟩
def lw_privs_2 : List (MethodName × Nat) := [(⟨"PulsedAxes$Past", "keep", "(LPulsedAxes$State;)V"⟩, 2), (⟨"PulsedAxes$Past", "forgetOldest", "()V"⟩, 2), (⟨"PulsedAxes$State", "copyFrom", "(LPulsedAxes$State;)V"⟩, 7), (⟨"PulsedAxes$Piece", "copyFrom", "(LPulsedAxes$Piece;)V"⟩, 10), (⟨"PulsedAxes$State", "addFirst", "(IIII)V"⟩, 7), (⟨"PulsedAxes$State", "removeAll", "(I)I"⟩, 7), (⟨"PulsedAxes$State", "removeAt", "(I)V"⟩, 7), (⟨"PulsedAxes", "doSteps", "(I)I"⟩, 9), (⟨"PulsedAxes$Walk", "begin", "()V"⟩, 6), (⟨"PulsedAxes$Walk", "advance", "()Z"⟩, 6), (⟨"PulsedAxes$Walk", "takeNext", "()Z"⟩, 6), (⟨"PulsedAxes$Piece", "advance", "([I)V"⟩, 10), (⟨"PulsedAxes$Piece", "advanceArc", "([I)V"⟩, 10), (⟨"PulsedAxes$Piece", "offCircle", "(II)I"⟩, 10), (⟨"PulsedAxes$Piece", "advanceEven", "([I)V"⟩, 10), (⟨"PulsedAxes$Piece", "gone", "(II)I"⟩, 10)]
theorem lw_r2 : ∀ q ∈ lw_privs_2, lw_okq q := List.forall_mem_cons.mpr ⟨lw_p16, List.forall_mem_cons.mpr ⟨lw_p17, List.forall_mem_cons.mpr ⟨lw_p18, List.forall_mem_cons.mpr ⟨lw_p19, List.forall_mem_cons.mpr ⟨lw_p20, List.forall_mem_cons.mpr ⟨lw_p21, List.forall_mem_cons.mpr ⟨lw_p22, List.forall_mem_cons.mpr ⟨lw_p23, List.forall_mem_cons.mpr ⟨lw_p24, List.forall_mem_cons.mpr ⟨lw_p25, List.forall_mem_cons.mpr ⟨lw_p26, List.forall_mem_cons.mpr ⟨lw_p27, List.forall_mem_cons.mpr ⟨lw_p28, List.forall_mem_cons.mpr ⟨lw_p29, List.forall_mem_cons.mpr ⟨lw_p30, List.forall_mem_cons.mpr ⟨lw_p31, fun _ h => absurd h List.not_mem_nil⟩⟩⟩⟩⟩⟩⟩⟩⟩⟩⟩⟩⟩⟩⟩⟩
theorem lw_p32 : lw_okq (⟨"PulsedAxes$Piece", "way", "(I)I"⟩, 10) := ⟨⟨by decide +kernel, by decide +kernel⟩, List.mem_of_getElem? (i := 33) (by decide +kernel), List.mem_of_getElem? (i := 539) (by decide +kernel), List.mem_of_getElem? (i := 540) (by decide +kernel)⟩
theorem lw_p33 : lw_okq (⟨"PulsedAxes$Walk", "settle", "()V"⟩, 6) := ⟨⟨by decide +kernel, by decide +kernel⟩, List.mem_of_getElem? (i := 130) (by decide +kernel), List.mem_of_getElem? (i := 548) (by decide +kernel), List.mem_of_getElem? (i := 549) (by decide +kernel)⟩
theorem lw_p34 : lw_okq (⟨"PulsedAxes", "driftOnce", "()V"⟩, 9) := ⟨⟨by decide +kernel, by decide +kernel⟩, List.mem_of_getElem? (i := 18) (by decide +kernel), List.mem_of_getElem? (i := 557) (by decide +kernel), List.mem_of_getElem? (i := 558) (by decide +kernel)⟩
theorem lw_p35 : lw_okq (⟨"PulsedAxes$Past", "takeBack", "(LPulsedAxes$State;)V"⟩, 2) := ⟨⟨by decide +kernel, by decide +kernel⟩, List.mem_of_getElem? (i := 113) (by decide +kernel), List.mem_of_getElem? (i := 567) (by decide +kernel), List.mem_of_getElem? (i := 568) (by decide +kernel)⟩
theorem lw_p36 : lw_okq (⟨"PulsedAxes$Piece", "raiseOff", "(LPulsedAxes$Fraction;)V"⟩, 10) := ⟨⟨by decide +kernel, by decide +kernel⟩, List.mem_of_getElem? (i := 33) (by decide +kernel), List.mem_of_getElem? (i := 619) (by decide +kernel), List.mem_of_getElem? (i := 620) (by decide +kernel)⟩
theorem lw_p37 : lw_okq (⟨"PulsedAxes$Fraction", "raise", "(II)V"⟩, 2) := ⟨⟨by decide +kernel, by decide +kernel⟩, List.mem_of_getElem? (i := 604) (by decide +kernel), List.mem_of_getElem? (i := 623) (by decide +kernel), List.mem_of_getElem? (i := 624) (by decide +kernel)⟩
theorem lw_p38 : lw_okq (⟨"PulsedAxes$Fraction", "lowest", "(I)I"⟩, 2) := ⟨⟨by decide +kernel, by decide +kernel⟩, List.mem_of_getElem? (i := 604) (by decide +kernel), List.mem_of_getElem? (i := 627) (by decide +kernel), List.mem_of_getElem? (i := 628) (by decide +kernel)⟩
theorem lw_p39 : lw_okq (⟨"PulsedAxes$Fraction", "commonDivisor", "()I"⟩, 2) := ⟨⟨by decide +kernel, by decide +kernel⟩, List.mem_of_getElem? (i := 604) (by decide +kernel), List.mem_of_getElem? (i := 631) (by decide +kernel), List.mem_of_getElem? (i := 632) (by decide +kernel)⟩
theorem lw_p40 : lw_okq (⟨"PulsedAxes", "gatherMoves", "(I)V"⟩, 9) := ⟨⟨by decide +kernel, by decide +kernel⟩, List.mem_of_getElem? (i := 18) (by decide +kernel), List.mem_of_getElem? (i := 639) (by decide +kernel), List.mem_of_getElem? (i := 640) (by decide +kernel)⟩
theorem lw_p41 : lw_okq (⟨"PulsedAxes", "endOf", "(III)I"⟩, 9) := ⟨⟨by decide +kernel, by decide +kernel⟩, List.mem_of_getElem? (i := 18) (by decide +kernel), List.mem_of_getElem? (i := 643) (by decide +kernel), List.mem_of_getElem? (i := 644) (by decide +kernel)⟩
theorem lw_p42 : lw_okq (⟨"PulsedAxes$Past", "copyFrom", "(LPulsedAxes$Past;)V"⟩, 2) := ⟨⟨by decide +kernel, by decide +kernel⟩, List.mem_of_getElem? (i := 113) (by decide +kernel), List.mem_of_getElem? (i := 655) (by decide +kernel), List.mem_of_getElem? (i := 656) (by decide +kernel)⟩
theorem lw_p43 : lw_okq (⟨"PulsedAxes$Sheet", "refusal", "(III)I"⟩, 4) := ⟨⟨by decide +kernel, by decide +kernel⟩, List.mem_of_getElem? (i := 192) (by decide +kernel), List.mem_of_getElem? (i := 673) (by decide +kernel), List.mem_of_getElem? (i := 674) (by decide +kernel)⟩
theorem lw_p44 : lw_okq (⟨"PulsedAxes$Sheet", "holds", "(II)Z"⟩, 4) := ⟨⟨by decide +kernel, by decide +kernel⟩, List.mem_of_getElem? (i := 192) (by decide +kernel), List.mem_of_getElem? (i := 679) (by decide +kernel), List.mem_of_getElem? (i := 680) (by decide +kernel)⟩
theorem lw_p45 : lw_okq (⟨"PulsedAxes", "comesSo", "(ILPulsedAxes$Sheet;II)Z"⟩, 9) := ⟨⟨by decide +kernel, by decide +kernel⟩, List.mem_of_getElem? (i := 18) (by decide +kernel), List.mem_of_getElem? (i := 684) (by decide +kernel), List.mem_of_getElem? (i := 685) (by decide +kernel)⟩
theorem lw_p46 : lw_okq (⟨"PulsedAxes$Walk", "beginAs", "(I)V"⟩, 6) := ⟨⟨by decide +kernel, by decide +kernel⟩, List.mem_of_getElem? (i := 130) (by decide +kernel), List.mem_of_getElem? (i := 688) (by decide +kernel), List.mem_of_getElem? (i := 689) (by decide +kernel)⟩
theorem lw_p47 : lw_okq (⟨"PulsedAxes$Sheet", "get", "(I)J"⟩, 4) := ⟨⟨by decide +kernel, by decide +kernel⟩, List.mem_of_getElem? (i := 192) (by decide +kernel), List.mem_of_getElem? (i := 694) (by decide +kernel), List.mem_of_getElem? (i := 695) (by decide +kernel)⟩
def lw_privs_3 : List (MethodName × Nat) := [(⟨"PulsedAxes$Piece", "way", "(I)I"⟩, 10), (⟨"PulsedAxes$Walk", "settle", "()V"⟩, 6), (⟨"PulsedAxes", "driftOnce", "()V"⟩, 9), (⟨"PulsedAxes$Past", "takeBack", "(LPulsedAxes$State;)V"⟩, 2), (⟨"PulsedAxes$Piece", "raiseOff", "(LPulsedAxes$Fraction;)V"⟩, 10), (⟨"PulsedAxes$Fraction", "raise", "(II)V"⟩, 2), (⟨"PulsedAxes$Fraction", "lowest", "(I)I"⟩, 2), (⟨"PulsedAxes$Fraction", "commonDivisor", "()I"⟩, 2), (⟨"PulsedAxes", "gatherMoves", "(I)V"⟩, 9), (⟨"PulsedAxes", "endOf", "(III)I"⟩, 9), (⟨"PulsedAxes$Past", "copyFrom", "(LPulsedAxes$Past;)V"⟩, 2), (⟨"PulsedAxes$Sheet", "refusal", "(III)I"⟩, 4), (⟨"PulsedAxes$Sheet", "holds", "(II)Z"⟩, 4), (⟨"PulsedAxes", "comesSo", "(ILPulsedAxes$Sheet;II)Z"⟩, 9), (⟨"PulsedAxes$Walk", "beginAs", "(I)V"⟩, 6), (⟨"PulsedAxes$Sheet", "get", "(I)J"⟩, 4)]
theorem lw_r3 : ∀ q ∈ lw_privs_3, lw_okq q := List.forall_mem_cons.mpr ⟨lw_p32, List.forall_mem_cons.mpr ⟨lw_p33, List.forall_mem_cons.mpr ⟨lw_p34, List.forall_mem_cons.mpr ⟨lw_p35, List.forall_mem_cons.mpr ⟨lw_p36, List.forall_mem_cons.mpr ⟨lw_p37, List.forall_mem_cons.mpr ⟨lw_p38, List.forall_mem_cons.mpr ⟨lw_p39, List.forall_mem_cons.mpr ⟨lw_p40, List.forall_mem_cons.mpr ⟨lw_p41, List.forall_mem_cons.mpr ⟨lw_p42, List.forall_mem_cons.mpr ⟨lw_p43, List.forall_mem_cons.mpr ⟨lw_p44, List.forall_mem_cons.mpr ⟨lw_p45, List.forall_mem_cons.mpr ⟨lw_p46, List.forall_mem_cons.mpr ⟨lw_p47, fun _ h => absurd h List.not_mem_nil⟩⟩⟩⟩⟩⟩⟩⟩⟩⟩⟩⟩⟩⟩⟩⟩
theorem lw_p48 : lw_okq (⟨"PulsedAxes$Sheet", "put", "(IJ)V"⟩, 4) := ⟨⟨by decide +kernel, by decide +kernel⟩, List.mem_of_getElem? (i := 192) (by decide +kernel), List.mem_of_getElem? (i := 702) (by decide +kernel), List.mem_of_getElem? (i := 703) (by decide +kernel)⟩
theorem lw_p49 : lw_okq (⟨"PulsedAxes$Sheet", "lowestBits", "(J)J"⟩, 4) := ⟨⟨by decide +kernel, by decide +kernel⟩, List.mem_of_getElem? (i := 192) (by decide +kernel), List.mem_of_getElem? (i := 706) (by decide +kernel), List.mem_of_getElem? (i := 707) (by decide +kernel)⟩
theorem lw_p50 : lw_okq (⟨"PulsedAxes$Sheet", "renew", "(II)V"⟩, 4) := ⟨⟨by decide +kernel, by decide +kernel⟩, List.mem_of_getElem? (i := 192) (by decide +kernel), List.mem_of_getElem? (i := 715) (by decide +kernel), List.mem_of_getElem? (i := 716) (by decide +kernel)⟩
theorem lw_p51 : lw_okq (⟨"PulsedAxesModel", "stillNow", "(I)I"⟩, 16) := ⟨⟨by decide +kernel, by decide +kernel⟩, List.mem_of_getElem? (i := 736) (by decide +kernel), List.mem_of_getElem? (i := 810) (by decide +kernel), List.mem_of_getElem? (i := 811) (by decide +kernel)⟩
theorem lw_p52 : lw_okq (⟨"PulsedAxesModel", "stepsAt", "(I)I"⟩, 16) := ⟨⟨by decide +kernel, by decide +kernel⟩, List.mem_of_getElem? (i := 736) (by decide +kernel), List.mem_of_getElem? (i := 814) (by decide +kernel), List.mem_of_getElem? (i := 815) (by decide +kernel)⟩
theorem lw_p53 : lw_okq (⟨"PulsedAxesModel", "leftOf", "(I)I"⟩, 16) := ⟨⟨by decide +kernel, by decide +kernel⟩, List.mem_of_getElem? (i := 736) (by decide +kernel), List.mem_of_getElem? (i := 831) (by decide +kernel), List.mem_of_getElem? (i := 832) (by decide +kernel)⟩
theorem lw_p54 : lw_okq (⟨"PulsedAxesModel", "kinds", "()I"⟩, 16) := ⟨⟨by decide +kernel, by decide +kernel⟩, List.mem_of_getElem? (i := 736) (by decide +kernel), List.mem_of_getElem? (i := 835) (by decide +kernel), List.mem_of_getElem? (i := 836) (by decide +kernel)⟩
theorem lw_p55 : lw_okq (⟨"PulsedAxesModel", "takesPlan", "()I"⟩, 16) := ⟨⟨by decide +kernel, by decide +kernel⟩, List.mem_of_getElem? (i := 736) (by decide +kernel), List.mem_of_getElem? (i := 850) (by decide +kernel), List.mem_of_getElem? (i := 851) (by decide +kernel)⟩
theorem lw_p56 : lw_okq (⟨"PulsedAxesModel", "here", "()I"⟩, 16) := ⟨⟨by decide +kernel, by decide +kernel⟩, List.mem_of_getElem? (i := 736) (by decide +kernel), List.mem_of_getElem? (i := 854) (by decide +kernel), List.mem_of_getElem? (i := 855) (by decide +kernel)⟩
theorem lw_p57 : lw_okq (⟨"PulsedAxesModel", "takesPiece", "(I)Z"⟩, 16) := ⟨⟨by decide +kernel, by decide +kernel⟩, List.mem_of_getElem? (i := 736) (by decide +kernel), List.mem_of_getElem? (i := 858) (by decide +kernel), List.mem_of_getElem? (i := 859) (by decide +kernel)⟩
theorem lw_p58 : lw_okq (⟨"PulsedAxesModel", "takesNumber", "()Z"⟩, 16) := ⟨⟨by decide +kernel, by decide +kernel⟩, List.mem_of_getElem? (i := 736) (by decide +kernel), List.mem_of_getElem? (i := 865) (by decide +kernel), List.mem_of_getElem? (i := 866) (by decide +kernel)⟩
theorem lw_p59 : lw_okq (⟨"PulsedAxesModel", "minds", "()V"⟩, 16) := ⟨⟨by decide +kernel, by decide +kernel⟩, List.mem_of_getElem? (i := 736) (by decide +kernel), List.mem_of_getElem? (i := 887) (by decide +kernel), List.mem_of_getElem? (i := 888) (by decide +kernel)⟩
theorem lw_p60 : lw_okq (⟨"PulsedAxesModel", "copyRow", "(II)V"⟩, 16) := ⟨⟨by decide +kernel, by decide +kernel⟩, List.mem_of_getElem? (i := 736) (by decide +kernel), List.mem_of_getElem? (i := 891) (by decide +kernel), List.mem_of_getElem? (i := 892) (by decide +kernel)⟩
theorem lw_p61 : lw_okq (⟨"PulsedAxesModel", "lays", "(IIIII)V"⟩, 16) := ⟨⟨by decide +kernel, by decide +kernel⟩, List.mem_of_getElem? (i := 736) (by decide +kernel), List.mem_of_getElem? (i := 895) (by decide +kernel), List.mem_of_getElem? (i := 896) (by decide +kernel)⟩
theorem lw_p62 : lw_okq (⟨"PulsedAxesModel", "steps", "(I)Z"⟩, 16) := ⟨⟨by decide +kernel, by decide +kernel⟩, List.mem_of_getElem? (i := 736) (by decide +kernel), List.mem_of_getElem? (i := 921) (by decide +kernel), List.mem_of_getElem? (i := 922) (by decide +kernel)⟩
theorem lw_p63 : lw_okq (⟨"PulsedAxesModel", "begins", "(I)V"⟩, 16) := ⟨⟨by decide +kernel, by decide +kernel⟩, List.mem_of_getElem? (i := 736) (by decide +kernel), List.mem_of_getElem? (i := 925) (by decide +kernel), List.mem_of_getElem? (i := 926) (by decide +kernel)⟩
def lw_privs_4 : List (MethodName × Nat) := [(⟨"PulsedAxes$Sheet", "put", "(IJ)V"⟩, 4), (⟨"PulsedAxes$Sheet", "lowestBits", "(J)J"⟩, 4), (⟨"PulsedAxes$Sheet", "renew", "(II)V"⟩, 4), (⟨"PulsedAxesModel", "stillNow", "(I)I"⟩, 16), (⟨"PulsedAxesModel", "stepsAt", "(I)I"⟩, 16), (⟨"PulsedAxesModel", "leftOf", "(I)I"⟩, 16), (⟨"PulsedAxesModel", "kinds", "()I"⟩, 16), (⟨"PulsedAxesModel", "takesPlan", "()I"⟩, 16), (⟨"PulsedAxesModel", "here", "()I"⟩, 16), (⟨"PulsedAxesModel", "takesPiece", "(I)Z"⟩, 16), (⟨"PulsedAxesModel", "takesNumber", "()Z"⟩, 16), (⟨"PulsedAxesModel", "minds", "()V"⟩, 16), (⟨"PulsedAxesModel", "copyRow", "(II)V"⟩, 16), (⟨"PulsedAxesModel", "lays", "(IIIII)V"⟩, 16), (⟨"PulsedAxesModel", "steps", "(I)Z"⟩, 16), (⟨"PulsedAxesModel", "begins", "(I)V"⟩, 16)]
theorem lw_r4 : ∀ q ∈ lw_privs_4, lw_okq q := List.forall_mem_cons.mpr ⟨lw_p48, List.forall_mem_cons.mpr ⟨lw_p49, List.forall_mem_cons.mpr ⟨lw_p50, List.forall_mem_cons.mpr ⟨lw_p51, List.forall_mem_cons.mpr ⟨lw_p52, List.forall_mem_cons.mpr ⟨lw_p53, List.forall_mem_cons.mpr ⟨lw_p54, List.forall_mem_cons.mpr ⟨lw_p55, List.forall_mem_cons.mpr ⟨lw_p56, List.forall_mem_cons.mpr ⟨lw_p57, List.forall_mem_cons.mpr ⟨lw_p58, List.forall_mem_cons.mpr ⟨lw_p59, List.forall_mem_cons.mpr ⟨lw_p60, List.forall_mem_cons.mpr ⟨lw_p61, List.forall_mem_cons.mpr ⟨lw_p62, List.forall_mem_cons.mpr ⟨lw_p63, fun _ h => absurd h List.not_mem_nil⟩⟩⟩⟩⟩⟩⟩⟩⟩⟩⟩⟩⟩⟩⟩⟩
theorem lw_p64 : lw_okq (⟨"PulsedAxesModel", "line", "(I)V"⟩, 16) := ⟨⟨by decide +kernel, by decide +kernel⟩, List.mem_of_getElem? (i := 736) (by decide +kernel), List.mem_of_getElem? (i := 929) (by decide +kernel), List.mem_of_getElem? (i := 930) (by decide +kernel)⟩
theorem lw_p65 : lw_okq (⟨"PulsedAxesModel", "goes", "(III)V"⟩, 16) := ⟨⟨by decide +kernel, by decide +kernel⟩, List.mem_of_getElem? (i := 736) (by decide +kernel), List.mem_of_getElem? (i := 936) (by decide +kernel), List.mem_of_getElem? (i := 937) (by decide +kernel)⟩
theorem lw_p66 : lw_okq (⟨"PulsedAxesModel", "even", "(I)V"⟩, 16) := ⟨⟨by decide +kernel, by decide +kernel⟩, List.mem_of_getElem? (i := 736) (by decide +kernel), List.mem_of_getElem? (i := 940) (by decide +kernel), List.mem_of_getElem? (i := 941) (by decide +kernel)⟩
theorem lw_p67 : lw_okq (⟨"PulsedAxesModel", "arc", "(I)V"⟩, 16) := ⟨⟨by decide +kernel, by decide +kernel⟩, List.mem_of_getElem? (i := 736) (by decide +kernel), List.mem_of_getElem? (i := 944) (by decide +kernel), List.mem_of_getElem? (i := 945) (by decide +kernel)⟩
theorem lw_p68 : lw_okq (⟨"PulsedAxesModel", "offBy", "(I)V"⟩, 16) := ⟨⟨by decide +kernel, by decide +kernel⟩, List.mem_of_getElem? (i := 736) (by decide +kernel), List.mem_of_getElem? (i := 991) (by decide +kernel), List.mem_of_getElem? (i := 992) (by decide +kernel)⟩
theorem lw_p69 : lw_okq (⟨"PulsedAxesModel", "against", "(IIII)I"⟩, 16) := ⟨⟨by decide +kernel, by decide +kernel⟩, List.mem_of_getElem? (i := 736) (by decide +kernel), List.mem_of_getElem? (i := 1022) (by decide +kernel), List.mem_of_getElem? (i := 1023) (by decide +kernel)⟩
theorem lw_p70 : lw_okq (⟨"PulsedAxesModel", "cameBy", "(IIII)Z"⟩, 16) := ⟨⟨by decide +kernel, by decide +kernel⟩, List.mem_of_getElem? (i := 736) (by decide +kernel), List.mem_of_getElem? (i := 1029) (by decide +kernel), List.mem_of_getElem? (i := 1030) (by decide +kernel)⟩
def lw_privs_5 : List (MethodName × Nat) := [(⟨"PulsedAxesModel", "line", "(I)V"⟩, 16), (⟨"PulsedAxesModel", "goes", "(III)V"⟩, 16), (⟨"PulsedAxesModel", "even", "(I)V"⟩, 16), (⟨"PulsedAxesModel", "arc", "(I)V"⟩, 16), (⟨"PulsedAxesModel", "offBy", "(I)V"⟩, 16), (⟨"PulsedAxesModel", "against", "(IIII)I"⟩, 16), (⟨"PulsedAxesModel", "cameBy", "(IIII)Z"⟩, 16)]
theorem lw_r5 : ∀ q ∈ lw_privs_5, lw_okq q := List.forall_mem_cons.mpr ⟨lw_p64, List.forall_mem_cons.mpr ⟨lw_p65, List.forall_mem_cons.mpr ⟨lw_p66, List.forall_mem_cons.mpr ⟨lw_p67, List.forall_mem_cons.mpr ⟨lw_p68, List.forall_mem_cons.mpr ⟨lw_p69, List.forall_mem_cons.mpr ⟨lw_p70, fun _ h => absurd h List.not_mem_nil⟩⟩⟩⟩⟩⟩⟩
def lw_privs : List (MethodName × Nat) := lw_privs_1 ++ (lw_privs_2 ++ (lw_privs_3 ++ (lw_privs_4 ++ (lw_privs_5))))
def lw_tbl : List Cond := k2_sels lw_privs ++ tables_1
theorem lw_privs_ok : ∀ q ∈ lw_privs, lw_okq q := by
  show ∀ q ∈ lw_privs_1 ++ (lw_privs_2 ++ (lw_privs_3 ++ (lw_privs_4 ++ (lw_privs_5)))), lw_okq q
  exact List.forall_mem_append.mpr ⟨lw_r1, List.forall_mem_append.mpr ⟨lw_r2, List.forall_mem_append.mpr ⟨lw_r3, List.forall_mem_append.mpr ⟨lw_r4, lw_r5⟩⟩⟩⟩

def RX0 : String := "PulsedAxes$Fraction"
def TX0 : u_T := fun k => match k with
  | 0 => ("PulsedAxes$Fraction", "above", "I", false)
  | _ => ("PulsedAxes$Fraction", "below", "I", false)
def tyX0 : Nat → FieldType := fun k => match k with
  | 0 => .int
  | _ => .int
abbrev wsX00 : List Cond := u_ws RX0 TX0 2
theorem nmX0 : ∀ a, a < 2 → ∀ b, b < 2 → a ≠ b → (TX0 a).2.1 ≠ (TX0 b).2.1 := by decide +kernel
theorem tyX0_ok : ∀ k, k < 2 → parseFieldDescriptor (TX0 k).2.2.1 = some (tyX0 k) := by decide +kernel
abbrev cX0_init : ByteArray := prog_2_method_1_code
def yX0_init : MethodName := ⟨RX0, "<init>", "()V"⟩
abbrev cX0_raise : ByteArray := prog_2_method_2_code
def yX0_raise : MethodName := ⟨RX0, "raise", "(II)V"⟩
abbrev cX0_lowest : ByteArray := prog_2_method_3_code
def yX0_lowest : MethodName := ⟨RX0, "lowest", "(I)I"⟩
abbrev cX0_commonDivisor : ByteArray := prog_2_method_4_code
def yX0_commonDivisor : MethodName := ⟨RX0, "commonDivisor", "()I"⟩
def RX1 : String := "PulsedAxes$Past"
def TX1 : u_T := fun k => match k with
  | 0 => ("PulsedAxes$Past", "kept", "[LPulsedAxes$State;", true)
  | _ => ("PulsedAxes$Past", "known", "I", false)
def tyX1 : Nat → FieldType := fun k => match k with
  | 0 => .array (.object "PulsedAxes$State")
  | _ => .int
abbrev wsX10 : List Cond := u_ws RX1 TX1 2
theorem nmX1 : ∀ a, a < 2 → ∀ b, b < 2 → a ≠ b → (TX1 a).2.1 ≠ (TX1 b).2.1 := by decide +kernel
theorem tyX1_ok : ∀ k, k < 2 → parseFieldDescriptor (TX1 k).2.2.1 = some (tyX1 k) := by decide +kernel
abbrev cX1_init : ByteArray := prog_3_method_1_code
def yX1_init : MethodName := ⟨RX1, "<init>", "()V"⟩
abbrev cX1_keep : ByteArray := prog_3_method_2_code
def yX1_keep : MethodName := ⟨RX1, "keep", "(LPulsedAxes$State;)V"⟩
abbrev cX1_forgetOldest : ByteArray := prog_3_method_3_code
def yX1_forgetOldest : MethodName := ⟨RX1, "forgetOldest", "()V"⟩
abbrev cX1_takeBack : ByteArray := prog_3_method_4_code
def yX1_takeBack : MethodName := ⟨RX1, "takeBack", "(LPulsedAxes$State;)V"⟩
abbrev cX1_copyFrom : ByteArray := prog_3_method_5_code
def yX1_copyFrom : MethodName := ⟨RX1, "copyFrom", "(LPulsedAxes$Past;)V"⟩
def RX2 : String := "PulsedAxes$Piece"
def TX2 : u_T := fun k => match k with
  | 0 => ("PulsedAxes$Piece", "kind", "I", false)
  | 1 => ("PulsedAxes$Piece", "a", "I", false)
  | 2 => ("PulsedAxes$Piece", "b", "I", false)
  | 3 => ("PulsedAxes$Piece", "c", "I", false)
  | 4 => ("PulsedAxes$Piece", "done", "I", false)
  | 5 => ("PulsedAxes$Piece", "turns", "I", false)
  | 6 => ("PulsedAxes$Piece", "turn", "I", false)
  | 7 => ("PulsedAxes$Piece", "axis", "I", false)
  | 8 => ("PulsedAxes$Piece", "u", "I", false)
  | _ => ("PulsedAxes$Piece", "v", "I", false)
def tyX2 : Nat → FieldType := fun k => match k with
  | 0 => .int
  | 1 => .int
  | 2 => .int
  | 3 => .int
  | 4 => .int
  | 5 => .int
  | 6 => .int
  | 7 => .int
  | 8 => .int
  | _ => .int
abbrev wsX20 : List Cond := u_ws RX2 TX2 10
theorem nmX2 : ∀ a, a < 10 → ∀ b, b < 10 → a ≠ b → (TX2 a).2.1 ≠ (TX2 b).2.1 := by decide +kernel
theorem tyX2_ok : ∀ k, k < 10 → parseFieldDescriptor (TX2 k).2.2.1 = some (tyX2 k) := by decide +kernel
abbrev cX2_init : ByteArray := prog_4_method_1_code
def yX2_init : MethodName := ⟨RX2, "<init>", "()V"⟩
abbrev cX2_tell : ByteArray := prog_4_method_2_code
def yX2_tell : MethodName := ⟨RX2, "tell", "(IIII)V"⟩
abbrev cX2_copyFrom : ByteArray := prog_4_method_3_code
def yX2_copyFrom : MethodName := ⟨RX2, "copyFrom", "(LPulsedAxes$Piece;)V"⟩
abbrev cX2_isArc : ByteArray := prog_4_method_4_code
def yX2_isArc : MethodName := ⟨RX2, "isArc", "()Z"⟩
abbrev cX2_way : ByteArray := prog_4_method_5_code
def yX2_way : MethodName := ⟨RX2, "way", "(I)I"⟩
abbrev cX2_total : ByteArray := prog_4_method_6_code
def yX2_total : MethodName := ⟨RX2, "total", "()I"⟩
abbrev cX2_remaining : ByteArray := prog_4_method_7_code
def yX2_remaining : MethodName := ⟨RX2, "remaining", "()I"⟩
abbrev cX2_gone : ByteArray := prog_4_method_8_code
def yX2_gone : MethodName := ⟨RX2, "gone", "(II)I"⟩
abbrev cX2_nearest : ByteArray := prog_4_method_9_code
def yX2_nearest : MethodName := ⟨RX2, "nearest", "(II)I"⟩
abbrev cX2_advance : ByteArray := prog_4_method_10_code
def yX2_advance : MethodName := ⟨RX2, "advance", "([I)V"⟩
abbrev cX2_advanceEven : ByteArray := prog_4_method_11_code
def yX2_advanceEven : MethodName := ⟨RX2, "advanceEven", "([I)V"⟩
abbrev cX2_advanceArc : ByteArray := prog_4_method_12_code
def yX2_advanceArc : MethodName := ⟨RX2, "advanceArc", "([I)V"⟩
abbrev cX2_offCircle : ByteArray := prog_4_method_13_code
def yX2_offCircle : MethodName := ⟨RX2, "offCircle", "(II)I"⟩
abbrev cX2_raiseOff : ByteArray := prog_4_method_14_code
def yX2_raiseOff : MethodName := ⟨RX2, "raiseOff", "(LPulsedAxes$Fraction;)V"⟩
def RX3 : String := "PulsedAxes$Reader"
def TX3 : u_T := fun k => match k with
  | 0 => ("PulsedAxes$Reader", "tape", "[C", true)
  | 1 => ("PulsedAxes$Reader", "length", "I", false)
  | 2 => ("PulsedAxes$Reader", "pieces", "[LPulsedAxes$Piece;", true)
  | 3 => ("PulsedAxes$Reader", "found", "I", false)
  | 4 => ("PulsedAxes$Reader", "numbers", "[I", true)
  | _ => ("PulsedAxes$Reader", "at", "I", false)
def tyX3 : Nat → FieldType := fun k => match k with
  | 0 => .array .char
  | 1 => .int
  | 2 => .array (.object "PulsedAxes$Piece")
  | 3 => .int
  | 4 => .array .int
  | _ => .int
abbrev wsX30 : List Cond := u_ws RX3 TX3 6
theorem nmX3 : ∀ a, a < 6 → ∀ b, b < 6 → a ≠ b → (TX3 a).2.1 ≠ (TX3 b).2.1 := by decide +kernel
theorem tyX3_ok : ∀ k, k < 6 → parseFieldDescriptor (TX3 k).2.2.1 = some (tyX3 k) := by decide +kernel
abbrev cX3_init : ByteArray := prog_5_method_1_code
def yX3_init : MethodName := ⟨RX3, "<init>", "()V"⟩
abbrev cX3_append : ByteArray := prog_5_method_2_code
def yX3_append : MethodName := ⟨RX3, "append", "(C)Z"⟩
abbrev cX3_readPlan : ByteArray := prog_5_method_3_code
def yX3_readPlan : MethodName := ⟨RX3, "readPlan", "()Z"⟩
abbrev cX3_readPiece : ByteArray := prog_5_method_4_code
def yX3_readPiece : MethodName := ⟨RX3, "readPiece", "(I)Z"⟩
abbrev cX3_readNumber : ByteArray := prog_5_method_5_code
def yX3_readNumber : MethodName := ⟨RX3, "readNumber", "(I)Z"⟩
abbrev cX3_digitIsNext : ByteArray := prog_5_method_6_code
def yX3_digitIsNext : MethodName := ⟨RX3, "digitIsNext", "()Z"⟩
abbrev cX3_readSign : ByteArray := prog_5_method_7_code
def yX3_readSign : MethodName := ⟨RX3, "readSign", "(C)Z"⟩
abbrev cX3_atEnd : ByteArray := prog_5_method_8_code
def yX3_atEnd : MethodName := ⟨RX3, "atEnd", "()Z"⟩
def RX4 : String := "PulsedAxes$Sheet"
def TX4 : u_T := fun k => match k with
  | 0 => ("PulsedAxes$Sheet", "items", "[J", true)
  | 1 => ("PulsedAxes$Sheet", "there", "Z", false)
  | 2 => ("PulsedAxes$Sheet", "lane", "I", false)
  | _ => ("PulsedAxes$Sheet", "size", "I", false)
def tyX4 : Nat → FieldType := fun k => match k with
  | 0 => .array .long
  | 1 => .boolean
  | 2 => .int
  | _ => .int
abbrev wsX40 : List Cond := u_ws RX4 TX4 4
theorem nmX4 : ∀ a, a < 4 → ∀ b, b < 4 → a ≠ b → (TX4 a).2.1 ≠ (TX4 b).2.1 := by decide +kernel
theorem tyX4_ok : ∀ k, k < 4 → parseFieldDescriptor (TX4 k).2.2.1 = some (tyX4 k) := by decide +kernel
abbrev cX4_init : ByteArray := prog_6_method_1_code
def yX4_init : MethodName := ⟨RX4, "<init>", "()V"⟩
abbrev cX4_renew : ByteArray := prog_6_method_2_code
def yX4_renew : MethodName := ⟨RX4, "renew", "(II)V"⟩
abbrev cX4_refusal : ByteArray := prog_6_method_3_code
def yX4_refusal : MethodName := ⟨RX4, "refusal", "(III)I"⟩
abbrev cX4_holds : ByteArray := prog_6_method_4_code
def yX4_holds : MethodName := ⟨RX4, "holds", "(II)Z"⟩
abbrev cX4_get : ByteArray := prog_6_method_5_code
def yX4_get : MethodName := ⟨RX4, "get", "(I)J"⟩
abbrev cX4_put : ByteArray := prog_6_method_6_code
def yX4_put : MethodName := ⟨RX4, "put", "(IJ)V"⟩
abbrev cX4_lowestBits : ByteArray := prog_6_method_7_code
def yX4_lowestBits : MethodName := ⟨RX4, "lowestBits", "(J)J"⟩
def RX5 : String := "PulsedAxes$State"
def TX5 : u_T := fun k => match k with
  | 0 => ("PulsedAxes$State", "spot", "[I", true)
  | 1 => ("PulsedAxes$State", "row", "[LPulsedAxes$Piece;", true)
  | 2 => ("PulsedAxes$State", "waiting", "I", false)
  | 3 => ("PulsedAxes$State", "now", "LPulsedAxes$Piece;", true)
  | 4 => ("PulsedAxes$State", "busy", "Z", false)
  | 5 => ("PulsedAxes$State", "held", "Z", false)
  | _ => ("PulsedAxes$State", "draw", "I", false)
def tyX5 : Nat → FieldType := fun k => match k with
  | 0 => .array .int
  | 1 => .array (.object "PulsedAxes$Piece")
  | 2 => .int
  | 3 => .object "PulsedAxes$Piece"
  | 4 => .boolean
  | 5 => .boolean
  | _ => .int
abbrev wsX50 : List Cond := u_ws RX5 TX5 7
theorem nmX5 : ∀ a, a < 7 → ∀ b, b < 7 → a ≠ b → (TX5 a).2.1 ≠ (TX5 b).2.1 := by decide +kernel
theorem tyX5_ok : ∀ k, k < 7 → parseFieldDescriptor (TX5 k).2.2.1 = some (tyX5 k) := by decide +kernel
abbrev cX5_init : ByteArray := prog_7_method_1_code
def yX5_init : MethodName := ⟨RX5, "<init>", "()V"⟩
abbrev cX5_copyFrom : ByteArray := prog_7_method_2_code
def yX5_copyFrom : MethodName := ⟨RX5, "copyFrom", "(LPulsedAxes$State;)V"⟩
abbrev cX5_clear : ByteArray := prog_7_method_3_code
def yX5_clear : MethodName := ⟨RX5, "clear", "()V"⟩
abbrev cX5_addLast : ByteArray := prog_7_method_4_code
def yX5_addLast : MethodName := ⟨RX5, "addLast", "(IIII)V"⟩
abbrev cX5_addFirst : ByteArray := prog_7_method_5_code
def yX5_addFirst : MethodName := ⟨RX5, "addFirst", "(IIII)V"⟩
abbrev cX5_removeAt : ByteArray := prog_7_method_6_code
def yX5_removeAt : MethodName := ⟨RX5, "removeAt", "(I)V"⟩
abbrev cX5_removeAll : ByteArray := prog_7_method_7_code
def yX5_removeAll : MethodName := ⟨RX5, "removeAll", "(I)I"⟩
abbrev cX5_kinds : ByteArray := prog_7_method_8_code
def yX5_kinds : MethodName := ⟨RX5, "kinds", "()I"⟩
abbrev cX5_remaining : ByteArray := prog_7_method_9_code
def yX5_remaining : MethodName := ⟨RX5, "remaining", "()I"⟩
def RX6 : String := "PulsedAxes$Walk"
def TX6 : u_T := fun k => match k with
  | 0 => ("PulsedAxes$Walk", "from", "LPulsedAxes$State;", true)
  | 1 => ("PulsedAxes$Walk", "now", "LPulsedAxes$Piece;", true)
  | 2 => ("PulsedAxes$Walk", "busy", "Z", false)
  | 3 => ("PulsedAxes$Walk", "taken", "I", false)
  | 4 => ("PulsedAxes$Walk", "spot", "[I", true)
  | _ => ("PulsedAxes$Walk", "move", "[I", true)
def tyX6 : Nat → FieldType := fun k => match k with
  | 0 => .object "PulsedAxes$State"
  | 1 => .object "PulsedAxes$Piece"
  | 2 => .boolean
  | 3 => .int
  | 4 => .array .int
  | _ => .array .int
abbrev wsX60 : List Cond := u_ws RX6 TX6 6
theorem nmX6 : ∀ a, a < 6 → ∀ b, b < 6 → a ≠ b → (TX6 a).2.1 ≠ (TX6 b).2.1 := by decide +kernel
theorem tyX6_ok : ∀ k, k < 6 → parseFieldDescriptor (TX6 k).2.2.1 = some (tyX6 k) := by decide +kernel
abbrev cX6_init : ByteArray := prog_8_method_1_code
def yX6_init : MethodName := ⟨RX6, "<init>", "(LPulsedAxes$State;)V"⟩
abbrev cX6_begin : ByteArray := prog_8_method_2_code
def yX6_begin : MethodName := ⟨RX6, "begin", "()V"⟩
abbrev cX6_beginAs : ByteArray := prog_8_method_3_code
def yX6_beginAs : MethodName := ⟨RX6, "beginAs", "(I)V"⟩
abbrev cX6_takeNext : ByteArray := prog_8_method_4_code
def yX6_takeNext : MethodName := ⟨RX6, "takeNext", "()Z"⟩
abbrev cX6_advance : ByteArray := prog_8_method_5_code
def yX6_advance : MethodName := ⟨RX6, "advance", "()Z"⟩
abbrev cX6_settle : ByteArray := prog_8_method_6_code
def yX6_settle : MethodName := ⟨RX6, "settle", "()V"⟩
def RX7 : String := "PulsedAxes"
def TX7 : u_T := fun k => match k with
  | 0 => ("PulsedAxes", "state", "LPulsedAxes$State;", true)
  | 1 => ("PulsedAxes", "past", "LPulsedAxes$Past;", true)
  | 2 => ("PulsedAxes", "walk", "LPulsedAxes$Walk;", true)
  | 3 => ("PulsedAxes", "reader", "LPulsedAxes$Reader;", true)
  | 4 => ("PulsedAxes", "sheets", "[LPulsedAxes$Sheet;", true)
  | 5 => ("PulsedAxes", "moves", "[I", true)
  | 6 => ("PulsedAxes", "imageState", "LPulsedAxes$State;", true)
  | 7 => ("PulsedAxes", "imagePast", "LPulsedAxes$Past;", true)
  | _ => ("PulsedAxes", "imaged", "Z", false)
def tyX7 : Nat → FieldType := fun k => match k with
  | 0 => .object "PulsedAxes$State"
  | 1 => .object "PulsedAxes$Past"
  | 2 => .object "PulsedAxes$Walk"
  | 3 => .object "PulsedAxes$Reader"
  | 4 => .array (.object "PulsedAxes$Sheet")
  | 5 => .array .int
  | 6 => .object "PulsedAxes$State"
  | 7 => .object "PulsedAxes$Past"
  | _ => .boolean
abbrev wsX70 : List Cond := u_ws RX7 TX7 9
theorem nmX7 : ∀ a, a < 9 → ∀ b, b < 9 → a ≠ b → (TX7 a).2.1 ≠ (TX7 b).2.1 := by decide +kernel
theorem tyX7_ok : ∀ k, k < 9 → parseFieldDescriptor (TX7 k).2.2.1 = some (tyX7 k) := by decide +kernel
abbrev cX7_init : ByteArray := prog_1_method_1_code
def yX7_init : MethodName := ⟨RX7, "<init>", "()V"⟩
abbrev cX7_place : ByteArray := prog_1_method_2_code
def yX7_place : MethodName := ⟨RX7, "place", "(I)I"⟩
abbrev cX7_piece : ByteArray := prog_1_method_3_code
def yX7_piece : MethodName := ⟨RX7, "piece", "(II)I"⟩
abbrev cX7_type : ByteArray := prog_1_method_4_code
def yX7_type : MethodName := ⟨RX7, "type", "(I)I"⟩
abbrev cX7_plan : ByteArray := prog_1_method_5_code
def yX7_plan : MethodName := ⟨RX7, "plan", "()I"⟩
abbrev cX7_count : ByteArray := prog_1_method_6_code
def yX7_count : MethodName := ⟨RX7, "count", "(I)I"⟩
abbrev cX7_push : ByteArray := prog_1_method_7_code
def yX7_push : MethodName := ⟨RX7, "push", "(IIII)I"⟩
abbrev cX7_jump : ByteArray := prog_1_method_8_code
def yX7_jump : MethodName := ⟨RX7, "jump", "(IIII)I"⟩
abbrev cX7_purge : ByteArray := prog_1_method_9_code
def yX7_purge : MethodName := ⟨RX7, "purge", "(I)I"⟩
abbrev cX7_stop : ByteArray := prog_1_method_10_code
def yX7_stop : MethodName := ⟨RX7, "stop", "()I"⟩
abbrev cX7_hold : ByteArray := prog_1_method_11_code
def yX7_hold : MethodName := ⟨RX7, "hold", "()I"⟩
abbrev cX7_step : ByteArray := prog_1_method_12_code
def yX7_step : MethodName := ⟨RX7, "step", "(I)I"⟩
abbrev cX7_drift : ByteArray := prog_1_method_13_code
def yX7_drift : MethodName := ⟨RX7, "drift", "(I)I"⟩
abbrev cX7_undo : ByteArray := prog_1_method_14_code
def yX7_undo : MethodName := ⟨RX7, "undo", "()I"⟩
abbrev cX7_seed : ByteArray := prog_1_method_15_code
def yX7_seed : MethodName := ⟨RX7, "seed", "(I)I"⟩
abbrev cX7_where : ByteArray := prog_1_method_16_code
def yX7_where : MethodName := ⟨RX7, "where", "(II)I"⟩
abbrev cX7_pulses : ByteArray := prog_1_method_17_code
def yX7_pulses : MethodName := ⟨RX7, "pulses", "(II)I"⟩
abbrev cX7_next : ByteArray := prog_1_method_18_code
def yX7_next : MethodName := ⟨RX7, "next", "(II)I"⟩
abbrev cX7_meets : ByteArray := prog_1_method_19_code
def yX7_meets : MethodName := ⟨RX7, "meets", "(III)I"⟩
abbrev cX7_reach : ByteArray := prog_1_method_20_code
def yX7_reach : MethodName := ⟨RX7, "reach", "(II)I"⟩
abbrev cX7_off : ByteArray := prog_1_method_21_code
def yX7_off : MethodName := ⟨RX7, "off", "(I)I"⟩
abbrev cX7_lost : ByteArray := prog_1_method_22_code
def yX7_lost : MethodName := ⟨RX7, "lost", "(IIIIII)I"⟩
abbrev cX7_image : ByteArray := prog_1_method_23_code
def yX7_image : MethodName := ⟨RX7, "image", "()I"⟩
abbrev cX7_restore : ByteArray := prog_1_method_24_code
def yX7_restore : MethodName := ⟨RX7, "restore", "()I"⟩
abbrev cX7_came : ByteArray := prog_1_method_25_code
def yX7_came : MethodName := ⟨RX7, "came", "(IIII)I"⟩
abbrev cX7_film : ByteArray := prog_1_method_26_code
def yX7_film : MethodName := ⟨RX7, "film", "(IIII)I"⟩
abbrev cX7_sheet : ByteArray := prog_1_method_27_code
def yX7_sheet : MethodName := ⟨RX7, "sheet", "(III)I"⟩
abbrev cX7_drop : ByteArray := prog_1_method_28_code
def yX7_drop : MethodName := ⟨RX7, "drop", "(I)I"⟩
abbrev cX7_item : ByteArray := prog_1_method_29_code
def yX7_item : MethodName := ⟨RX7, "item", "(IIIJ)I"⟩
abbrev cX7_copy : ByteArray := prog_1_method_30_code
def yX7_copy : MethodName := ⟨RX7, "copy", "(IIIII)I"⟩
abbrev cX7_isAxis : ByteArray := prog_1_method_31_code
def yX7_isAxis : MethodName := ⟨RX7, "isAxis", "(I)Z"⟩
abbrev cX7_isKind : ByteArray := prog_1_method_32_code
def yX7_isKind : MethodName := ⟨RX7, "isKind", "(I)Z"⟩
abbrev cX7_isSide : ByteArray := prog_1_method_33_code
def yX7_isSide : MethodName := ⟨RX7, "isSide", "(I)Z"⟩
abbrev cX7_isSheet : ByteArray := prog_1_method_34_code
def yX7_isSheet : MethodName := ⟨RX7, "isSheet", "(I)Z"⟩
abbrev cX7_isLane : ByteArray := prog_1_method_35_code
def yX7_isLane : MethodName := ⟨RX7, "isLane", "(I)Z"⟩
abbrev cX7_isWithin : ByteArray := prog_1_method_36_code
def yX7_isWithin : MethodName := ⟨RX7, "isWithin", "(II)Z"⟩
abbrev cX7_fits : ByteArray := prog_1_method_37_code
def yX7_fits : MethodName := ⟨RX7, "fits", "(IIII)Z"⟩
abbrev cX7_newcomerRefusal : ByteArray := prog_1_method_38_code
def yX7_newcomerRefusal : MethodName := ⟨RX7, "newcomerRefusal", "(IIII)I"⟩
abbrev cX7_sign : ByteArray := prog_1_method_39_code
def yX7_sign : MethodName := ⟨RX7, "sign", "(I)I"⟩
abbrev cX7_detail : ByteArray := prog_1_method_40_code
def yX7_detail : MethodName := ⟨RX7, "detail", "(LPulsedAxes$Piece;I)I"⟩
abbrev cX7_doSteps : ByteArray := prog_1_method_41_code
def yX7_doSteps : MethodName := ⟨RX7, "doSteps", "(I)I"⟩
abbrev cX7_driftOnce : ByteArray := prog_1_method_42_code
def yX7_driftOnce : MethodName := ⟨RX7, "driftOnce", "()V"⟩
abbrev cX7_gatherMoves : ByteArray := prog_1_method_43_code
def yX7_gatherMoves : MethodName := ⟨RX7, "gatherMoves", "(I)V"⟩
abbrev cX7_endOf : ByteArray := prog_1_method_44_code
def yX7_endOf : MethodName := ⟨RX7, "endOf", "(III)I"⟩
abbrev cX7_weightOf : ByteArray := prog_1_method_45_code
def yX7_weightOf : MethodName := ⟨RX7, "weightOf", "(III)I"⟩
abbrev cX7_comesSo : ByteArray := prog_1_method_46_code
def yX7_comesSo : MethodName := ⟨RX7, "comesSo", "(ILPulsedAxes$Sheet;II)Z"⟩
def RX8 : String := "PulsedAxesModel"
def TX8 : u_T := fun k => match k with
  | 0 => ("PulsedAxesModel", "w", "[I", true)
  | 1 => ("PulsedAxesModel", "undos", "I", false)
  | 2 => ("PulsedAxesModel", "imageUndos", "I", false)
  | 3 => ("PulsedAxesModel", "tape", "[I", true)
  | 4 => ("PulsedAxesModel", "taped", "I", false)
  | 5 => ("PulsedAxesModel", "moved", "[I", true)
  | 6 => ("PulsedAxesModel", "at", "I", false)
  | 7 => ("PulsedAxesModel", "number", "I", false)
  | 8 => ("PulsedAxesModel", "read", "[I", true)
  | 9 => ("PulsedAxesModel", "above", "I", false)
  | 10 => ("PulsedAxesModel", "below", "I", false)
  | 11 => ("PulsedAxesModel", "moves", "[I", true)
  | 12 => ("PulsedAxesModel", "many", "[I", true)
  | 13 => ("PulsedAxesModel", "lanes", "[I", true)
  | 14 => ("PulsedAxesModel", "items", "[J", true)
  | _ => ("PulsedAxesModel", "taken", "[J", true)
def tyX8 : Nat → FieldType := fun k => match k with
  | 0 => .array .int
  | 1 => .int
  | 2 => .int
  | 3 => .array .int
  | 4 => .int
  | 5 => .array .int
  | 6 => .int
  | 7 => .int
  | 8 => .array .int
  | 9 => .int
  | 10 => .int
  | 11 => .array .int
  | 12 => .array .int
  | 13 => .array .int
  | 14 => .array .long
  | _ => .array .long
abbrev wsX80 : List Cond := u_ws RX8 TX8 16
theorem nmX8 : ∀ a, a < 16 → ∀ b, b < 16 → a ≠ b → (TX8 a).2.1 ≠ (TX8 b).2.1 := by decide +kernel
theorem tyX8_ok : ∀ k, k < 16 → parseFieldDescriptor (TX8 k).2.2.1 = some (tyX8 k) := by decide +kernel
abbrev cX8_init : ByteArray := prog_10_method_1_code
def yX8_init : MethodName := ⟨RX8, "<init>", "()V"⟩
abbrev cX8_in : ByteArray := prog_10_method_3_code
def yX8_in : MethodName := ⟨RX8, "in", "(JJJ)Z"⟩
abbrev cX8_size : ByteArray := prog_10_method_4_code
def yX8_size : MethodName := ⟨RX8, "size", "(I)I"⟩
abbrev cX8_sign : ByteArray := prog_10_method_5_code
def yX8_sign : MethodName := ⟨RX8, "sign", "(I)I"⟩
abbrev cX8_copyRow : ByteArray := prog_10_method_6_code
def yX8_copyRow : MethodName := ⟨RX8, "copyRow", "(II)V"⟩
abbrev cX8_minds : ByteArray := prog_10_method_7_code
def yX8_minds : MethodName := ⟨RX8, "minds", "()V"⟩
abbrev cX8_isPiece : ByteArray := prog_10_method_8_code
def yX8_isPiece : MethodName := ⟨RX8, "isPiece", "(IIII)Z"⟩
abbrev cX8_turnsOf : ByteArray := prog_10_method_9_code
def yX8_turnsOf : MethodName := ⟨RX8, "turnsOf", "(III)I"⟩
abbrev cX8_stepsOf : ByteArray := prog_10_method_10_code
def yX8_stepsOf : MethodName := ⟨RX8, "stepsOf", "(IIII)I"⟩
abbrev cX8_stepsAt : ByteArray := prog_10_method_11_code
def yX8_stepsAt : MethodName := ⟨RX8, "stepsAt", "(I)I"⟩
abbrev cX8_stillNow : ByteArray := prog_10_method_12_code
def yX8_stillNow : MethodName := ⟨RX8, "stillNow", "(I)I"⟩
abbrev cX8_leftOf : ByteArray := prog_10_method_13_code
def yX8_leftOf : MethodName := ⟨RX8, "leftOf", "(I)I"⟩
abbrev cX8_gone : ByteArray := prog_10_method_14_code
def yX8_gone : MethodName := ⟨RX8, "gone", "(IIII)I"⟩
abbrev cX8_goes : ByteArray := prog_10_method_15_code
def yX8_goes : MethodName := ⟨RX8, "goes", "(III)V"⟩
abbrev cX8_line : ByteArray := prog_10_method_16_code
def yX8_line : MethodName := ⟨RX8, "line", "(I)V"⟩
abbrev cX8_even : ByteArray := prog_10_method_17_code
def yX8_even : MethodName := ⟨RX8, "even", "(I)V"⟩
abbrev cX8_arc : ByteArray := prog_10_method_18_code
def yX8_arc : MethodName := ⟨RX8, "arc", "(I)V"⟩
abbrev cX8_begins : ByteArray := prog_10_method_19_code
def yX8_begins : MethodName := ⟨RX8, "begins", "(I)V"⟩
abbrev cX8_steps : ByteArray := prog_10_method_20_code
def yX8_steps : MethodName := ⟨RX8, "steps", "(I)Z"⟩
abbrev cX8_isAxis : ByteArray := prog_10_method_21_code
def yX8_isAxis : MethodName := ⟨RX8, "isAxis", "(I)Z"⟩
abbrev cX8_place : ByteArray := prog_10_method_22_code
def yX8_place : MethodName := ⟨RX8, "place", "(I)I"⟩
abbrev cX8_piece : ByteArray := prog_10_method_23_code
def yX8_piece : MethodName := ⟨RX8, "piece", "(II)I"⟩
abbrev cX8_kinds : ByteArray := prog_10_method_24_code
def yX8_kinds : MethodName := ⟨RX8, "kinds", "()I"⟩
abbrev cX8_count : ByteArray := prog_10_method_25_code
def yX8_count : MethodName := ⟨RX8, "count", "(I)I"⟩
abbrev cX8_type : ByteArray := prog_10_method_26_code
def yX8_type : MethodName := ⟨RX8, "type", "(I)I"⟩
abbrev cX8_here : ByteArray := prog_10_method_27_code
def yX8_here : MethodName := ⟨RX8, "here", "()I"⟩
abbrev cX8_isDigit : ByteArray := prog_10_method_28_code
def yX8_isDigit : MethodName := ⟨RX8, "isDigit", "(I)Z"⟩
abbrev cX8_takesNumber : ByteArray := prog_10_method_29_code
def yX8_takesNumber : MethodName := ⟨RX8, "takesNumber", "()Z"⟩
abbrev cX8_kindOf : ByteArray := prog_10_method_30_code
def yX8_kindOf : MethodName := ⟨RX8, "kindOf", "(I)I"⟩
abbrev cX8_takesPiece : ByteArray := prog_10_method_31_code
def yX8_takesPiece : MethodName := ⟨RX8, "takesPiece", "(I)Z"⟩
abbrev cX8_takesPlan : ByteArray := prog_10_method_32_code
def yX8_takesPlan : MethodName := ⟨RX8, "takesPlan", "()I"⟩
abbrev cX8_plan : ByteArray := prog_10_method_33_code
def yX8_plan : MethodName := ⟨RX8, "plan", "()I"⟩
abbrev cX8_lays : ByteArray := prog_10_method_34_code
def yX8_lays : MethodName := ⟨RX8, "lays", "(IIIII)V"⟩
abbrev cX8_push : ByteArray := prog_10_method_35_code
def yX8_push : MethodName := ⟨RX8, "push", "(IIII)I"⟩
abbrev cX8_jump : ByteArray := prog_10_method_36_code
def yX8_jump : MethodName := ⟨RX8, "jump", "(IIII)I"⟩
abbrev cX8_purge : ByteArray := prog_10_method_37_code
def yX8_purge : MethodName := ⟨RX8, "purge", "(I)I"⟩
abbrev cX8_stop : ByteArray := prog_10_method_38_code
def yX8_stop : MethodName := ⟨RX8, "stop", "()I"⟩
abbrev cX8_hold : ByteArray := prog_10_method_39_code
def yX8_hold : MethodName := ⟨RX8, "hold", "()I"⟩
abbrev cX8_step : ByteArray := prog_10_method_40_code
def yX8_step : MethodName := ⟨RX8, "step", "(I)I"⟩
abbrev cX8_drift : ByteArray := prog_10_method_41_code
def yX8_drift : MethodName := ⟨RX8, "drift", "(I)I"⟩
abbrev cX8_undo : ByteArray := prog_10_method_42_code
def yX8_undo : MethodName := ⟨RX8, "undo", "()I"⟩
abbrev cX8_seed : ByteArray := prog_10_method_43_code
def yX8_seed : MethodName := ⟨RX8, "seed", "(I)I"⟩
abbrev cX8_where : ByteArray := prog_10_method_44_code
def yX8_where : MethodName := ⟨RX8, "where", "(II)I"⟩
abbrev cX8_pulses : ByteArray := prog_10_method_45_code
def yX8_pulses : MethodName := ⟨RX8, "pulses", "(II)I"⟩
abbrev cX8_next : ByteArray := prog_10_method_46_code
def yX8_next : MethodName := ⟨RX8, "next", "(II)I"⟩
abbrev cX8_meets : ByteArray := prog_10_method_47_code
def yX8_meets : MethodName := ⟨RX8, "meets", "(III)I"⟩
abbrev cX8_reach : ByteArray := prog_10_method_48_code
def yX8_reach : MethodName := ⟨RX8, "reach", "(II)I"⟩
abbrev cX8_offBy : ByteArray := prog_10_method_49_code
def yX8_offBy : MethodName := ⟨RX8, "offBy", "(I)V"⟩
abbrev cX8_common : ByteArray := prog_10_method_50_code
def yX8_common : MethodName := ⟨RX8, "common", "(JJ)J"⟩
abbrev cX8_off : ByteArray := prog_10_method_51_code
def yX8_off : MethodName := ⟨RX8, "off", "(I)I"⟩
abbrev cX8_lost : ByteArray := prog_10_method_52_code
def yX8_lost : MethodName := ⟨RX8, "lost", "(IIIIII)I"⟩
abbrev cX8_image : ByteArray := prog_10_method_53_code
def yX8_image : MethodName := ⟨RX8, "image", "()I"⟩
abbrev cX8_restore : ByteArray := prog_10_method_54_code
def yX8_restore : MethodName := ⟨RX8, "restore", "()I"⟩
abbrev cX8_isSheet : ByteArray := prog_10_method_55_code
def yX8_isSheet : MethodName := ⟨RX8, "isSheet", "(I)Z"⟩
abbrev cX8_isLane : ByteArray := prog_10_method_56_code
def yX8_isLane : MethodName := ⟨RX8, "isLane", "(I)Z"⟩
abbrev cX8_low : ByteArray := prog_10_method_57_code
def yX8_low : MethodName := ⟨RX8, "low", "(IJ)J"⟩
abbrev cX8_against : ByteArray := prog_10_method_58_code
def yX8_against : MethodName := ⟨RX8, "against", "(IIII)I"⟩
abbrev cX8_cameBy : ByteArray := prog_10_method_59_code
def yX8_cameBy : MethodName := ⟨RX8, "cameBy", "(IIII)Z"⟩
abbrev cX8_came : ByteArray := prog_10_method_60_code
def yX8_came : MethodName := ⟨RX8, "came", "(IIII)I"⟩
abbrev cX8_film : ByteArray := prog_10_method_61_code
def yX8_film : MethodName := ⟨RX8, "film", "(IIII)I"⟩
abbrev cX8_sheet : ByteArray := prog_10_method_62_code
def yX8_sheet : MethodName := ⟨RX8, "sheet", "(III)I"⟩
abbrev cX8_drop : ByteArray := prog_10_method_63_code
def yX8_drop : MethodName := ⟨RX8, "drop", "(I)I"⟩
abbrev cX8_item : ByteArray := prog_10_method_64_code
def yX8_item : MethodName := ⟨RX8, "item", "(IIIJ)I"⟩
abbrev cX8_copy : ByteArray := prog_10_method_65_code
def yX8_copy : MethodName := ⟨RX8, "copy", "(IIIII)I"⟩
def RJ11 : String := "java/lang/Character"
def TJ11 : u_T := fun k => match k with
  | _ => ("", "", "", false)
def tyJ11 : Nat → FieldType := fun k => match k with
  | _ => .int
abbrev wsJ110 : List Cond := u_ws RJ11 TJ11 0
theorem nmJ11 : ∀ a, a < 0 → ∀ b, b < 0 → a ≠ b → (TJ11 a).2.1 ≠ (TJ11 b).2.1 := by decide +kernel
theorem tyJ11_ok : ∀ k, k < 0 → parseFieldDescriptor (TJ11 k).2.2.1 = some (tyJ11 k) := by decide +kernel
abbrev cJ11_isValidCodePoint_9a6ad : ByteArray := prog_11_method_11_code
def yJ11_isValidCodePoint_9a6ad : MethodName := ⟨RJ11, "isValidCodePoint", "(I)Z"⟩
abbrev cJ11_highSurrogate_5068e : ByteArray := prog_11_method_28_code
def yJ11_highSurrogate_5068e : MethodName := ⟨RJ11, "highSurrogate", "(I)C"⟩
abbrev cJ11_lowSurrogate_5068e : ByteArray := prog_11_method_29_code
def yJ11_lowSurrogate_5068e : MethodName := ⟨RJ11, "lowSurrogate", "(I)C"⟩
def RJ9 : String := "java/lang/Math"
def TJ9 : u_T := fun k => match k with
  | _ => ("", "", "", false)
def tyJ9 : Nat → FieldType := fun k => match k with
  | _ => .int
abbrev wsJ90 : List Cond := u_ws RJ9 TJ9 0
theorem nmJ9 : ∀ a, a < 0 → ∀ b, b < 0 → a ≠ b → (TJ9 a).2.1 ≠ (TJ9 b).2.1 := by decide +kernel
theorem tyJ9_ok : ∀ k, k < 0 → parseFieldDescriptor (TJ9 k).2.2.1 = some (tyJ9 k) := by decide +kernel
abbrev cJ9_abs_0f7a4 : ByteArray := prog_12_method_59_code
def yJ9_abs_0f7a4 : MethodName := ⟨RJ9, "abs", "(I)I"⟩
abbrev cJ9_max_7cf53 : ByteArray := prog_12_method_65_code
def yJ9_max_7cf53 : MethodName := ⟨RJ9, "max", "(II)I"⟩
abbrev cJ9_min_7cf53 : ByteArray := prog_12_method_69_code
def yJ9_min_7cf53 : MethodName := ⟨RJ9, "min", "(II)I"⟩
def RJ0 : String := "java/lang/String"
def TJ0 : u_T := fun k => match k with
  | _ => ("", "", "", false)
def tyJ0 : Nat → FieldType := fun k => match k with
  | _ => .int
abbrev wsJ00 : List Cond := u_ws RJ0 TJ0 0
theorem nmJ0 : ∀ a, a < 0 → ∀ b, b < 0 → a ≠ b → (TJ0 a).2.1 ≠ (TJ0 b).2.1 := by decide +kernel
theorem tyJ0_ok : ∀ k, k < 0 → parseFieldDescriptor (TJ0 k).2.2.1 = some (tyJ0 k) := by decide +kernel
abbrev cJ0_length_8abf5 : ByteArray := prog_13_method_54_code
def yJ0_length_8abf5 : MethodName := ⟨RJ0, "length", "()I"⟩
abbrev cJ0_indexOf_0f7a4 : ByteArray := prog_13_method_79_code
def yJ0_indexOf_0f7a4 : MethodName := ⟨RJ0, "indexOf", "(I)I"⟩
abbrev cJ0_indexOf_7cf53 : ByteArray := prog_13_method_80_code
def yJ0_indexOf_7cf53 : MethodName := ⟨RJ0, "indexOf", "(II)I"⟩
abbrev cJ0_coder_7d493 : ByteArray := prog_13_method_152_code
def yJ0_coder_7d493 : MethodName := ⟨RJ0, "coder", "()B"⟩
abbrev cJ0_isLatin1_aae02 : ByteArray := prog_13_method_154_code
def yJ0_isLatin1_aae02 : MethodName := ⟨RJ0, "isLatin1", "()Z"⟩
abbrev cJ0_checkBoundsBeginEnd_23922 : ByteArray := prog_13_method_158_code
def yJ0_checkBoundsBeginEnd_23922 : MethodName := ⟨RJ0, "checkBoundsBeginEnd", "(III)V"⟩
def RJ1 : String := "java/lang/StringLatin1"
def TJ1 : u_T := fun k => match k with
  | _ => ("", "", "", false)
def tyJ1 : Nat → FieldType := fun k => match k with
  | _ => .int
abbrev wsJ10 : List Cond := u_ws RJ1 TJ1 0
theorem nmJ1 : ∀ a, a < 0 → ∀ b, b < 0 → a ≠ b → (TJ1 a).2.1 ≠ (TJ1 b).2.1 := by decide +kernel
theorem tyJ1_ok : ∀ k, k < 0 → parseFieldDescriptor (TJ1 k).2.2.1 = some (tyJ1 k) := by decide +kernel
abbrev cJ1_canEncode_9a6ad : ByteArray := prog_14_method_4_code
def yJ1_canEncode_9a6ad : MethodName := ⟨RJ1, "canEncode", "(I)Z"⟩
abbrev cJ1_indexOf_4cfef : ByteArray := prog_14_method_22_code
def yJ1_indexOf_4cfef : MethodName := ⟨RJ1, "indexOf", "([BIII)I"⟩
abbrev cJ1_indexOfChar_4cfef : ByteArray := prog_14_method_23_code
def yJ1_indexOfChar_4cfef : MethodName := ⟨RJ1, "indexOfChar", "([BIII)I"⟩
def RJ2 : String := "java/lang/StringUTF16"
def TJ2 : u_T := fun k => match k with
  | _ => ("", "", "", false)
def tyJ2 : Nat → FieldType := fun k => match k with
  | _ => .int
abbrev wsJ20 : List Cond := u_ws RJ2 TJ2 0
theorem nmJ2 : ∀ a, a < 0 → ∀ b, b < 0 → a ≠ b → (TJ2 a).2.1 ≠ (TJ2 b).2.1 := by decide +kernel
theorem tyJ2_ok : ∀ k, k < 0 → parseFieldDescriptor (TJ2 k).2.2.1 = some (tyJ2 k) := by decide +kernel
abbrev cJ2_getChar_3b067 : ByteArray := prog_15_method_5_code
def yJ2_getChar_3b067 : MethodName := ⟨RJ2, "getChar", "([BI)C"⟩
abbrev cJ2_length_9d52b : ByteArray := prog_15_method_6_code
def yJ2_length_9d52b : MethodName := ⟨RJ2, "length", "([B)I"⟩
abbrev cJ2_indexOf_4cfef : ByteArray := prog_15_method_40_code
def yJ2_indexOf_4cfef : MethodName := ⟨RJ2, "indexOf", "([BIII)I"⟩
abbrev cJ2_indexOfChar_4cfef : ByteArray := prog_15_method_47_code
def yJ2_indexOfChar_4cfef : MethodName := ⟨RJ2, "indexOfChar", "([BIII)I"⟩
abbrev cJ2_indexOfCharUnsafe_4cfef : ByteArray := prog_15_method_48_code
def yJ2_indexOfCharUnsafe_4cfef : MethodName := ⟨RJ2, "indexOfCharUnsafe", "([BIII)I"⟩
abbrev cJ2_indexOfSupplementary_4cfef : ByteArray := prog_15_method_49_code
def yJ2_indexOfSupplementary_4cfef : MethodName := ⟨RJ2, "indexOfSupplementary", "([BIII)I"⟩
abbrev cJ2_checkBoundsBeginEnd_d044e : ByteArray := prog_15_method_93_code
def yJ2_checkBoundsBeginEnd_d044e : MethodName := ⟨RJ2, "checkBoundsBeginEnd", "(II[B)V"⟩
def RJ10 : String := "java/lang/System"
def TJ10 : u_T := fun k => match k with
  | _ => ("", "", "", false)
def tyJ10 : Nat → FieldType := fun k => match k with
  | _ => .int
abbrev wsJ100 : List Cond := u_ws RJ10 TJ10 0
theorem nmJ10 : ∀ a, a < 0 → ∀ b, b < 0 → a ≠ b → (TJ10 a).2.1 ≠ (TJ10 b).2.1 := by decide +kernel
theorem tyJ10_ok : ∀ k, k < 0 → parseFieldDescriptor (TJ10 k).2.2.1 = some (tyJ10 k) := by decide +kernel
def RJ3 : String := "jdk/internal/util/Preconditions"
def TJ3 : u_T := fun k => match k with
  | _ => ("", "", "", false)
def tyJ3 : Nat → FieldType := fun k => match k with
  | _ => .int
abbrev wsJ30 : List Cond := u_ws RJ3 TJ3 0
theorem nmJ3 : ∀ a, a < 0 → ∀ b, b < 0 → a ≠ b → (TJ3 a).2.1 ≠ (TJ3 b).2.1 := by decide +kernel
theorem tyJ3_ok : ∀ k, k < 0 → parseFieldDescriptor (TJ3 k).2.2.1 = some (tyJ3 k) := by decide +kernel
abbrev cJ3_checkFromToIndex_8c36e : ByteArray := prog_17_method_12_code
def yJ3_checkFromToIndex_8c36e : MethodName := ⟨RJ3, "checkFromToIndex", "(IIILjava/util/function/BiFunction;)I"⟩
def RL : String := "PulsedAxesLaw"
abbrev cL_law : ByteArray := code
def yL_law : MethodName := ⟨RL, "law", "([I)Z"⟩
abbrev vwCl : List vw_C := [(RX0, TX0, 2), (RX1, TX1, 2), (RX2, TX2, 10), (RX3, TX3, 6), (RX4, TX4, 4), (RX5, TX5, 7), (RX6, TX6, 6), (RX7, TX7, 9), (RX8, TX8, 16)]
